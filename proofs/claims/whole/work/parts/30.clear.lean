/-! CLEAR -/
def awP (px py hk ex ey d : Int) : Prop :=
  ((px - hk) * (ex - hk) + py * ey ≤ 0 ∧ d * d ≤ (px - hk) * (px - hk) + py * py) ∨
  (0 < (px - hk) * (ex - hk) + py * ey ∧ (ex - hk) * (ex - hk) + ey * ey ≤ (px - hk) * (ex - hk) + py * ey ∧ d * d ≤ (px - hk - (ex - hk)) * (px - hk - (ex - hk)) + (py - ey) * (py - ey)) ∨
  (0 < (px - hk) * (ex - hk) + py * ey ∧ (px - hk) * (ex - hk) + py * ey < (ex - hk) * (ex - hk) + ey * ey ∧ d * d * ((ex - hk) * (ex - hk) + ey * ey) ≤ ((px - hk) * ey - py * (ex - hk)) * ((px - hk) * ey - py * (ex - hk)))
theorem mulS {a b A B : Int} (ha : -A ≤ a ∧ a ≤ A) (hb : -B ≤ b ∧ b ≤ B) : -(A * B) ≤ a * b ∧ a * b ≤ A * B := by
  rcases Int.le_total 0 a with q | q <;> rcases Int.le_total 0 b with z | z
  · have := mulR (a := a) (b := b) (A := A) (B := B) (by omega) (by omega)
    have := Int.mul_nonneg (show 0 ≤ A by omega) (show 0 ≤ B by omega)
    omega
  · have := mulR (a := a) (b := -b) (A := A) (B := B) (by omega) (by omega)
    rw [Int.mul_neg] at this
    omega
  · have := mulR (a := -a) (b := b) (A := A) (B := B) (by omega) (by omega)
    rw [Int.neg_mul] at this
    omega
  · have := mulR (a := -a) (b := -b) (A := A) (B := B) (by omega) (by omega)
    rw [Int.neg_mul_neg] at this
    have := Int.mul_nonneg (show 0 ≤ A by omega) (show 0 ≤ B by omega)
    omega
set_option maxRecDepth 20000 in
set_option maxHeartbeats 400000 in
theorem sp_X1_isAway {d : Nat} (hd : 1 ≤ d) {px py hk ex ey d0 : Int} {h : Hp}  (h1 : 0 ≤ px ∧ px ≤ 400) (h2 : 0 ≤ py ∧ py ≤ 400) (h3 : 0 ≤ hk ∧ hk ≤ 400) (h4 : 0 ≤ ex ∧ ex ≤ 400) (h5 : 0 ≤ ey ∧ ey ≤ 400) (h6 : 0 ≤ d0 ∧ d0 ≤ 50) {P : Int → Hp → Prop} (kt : (awP px py hk ex ey d0) → P 1 h) (kf : ¬ (awP px py hk ex ey d0) → P 0 h) : Cl d mX1_isAway [.inl px, .inl py, .inl hk, .inl ex, .inl ey, .inl d0] h (pI P) := by
  refine Cl.of (L := [some (.inl px), some (.inl py), some (.inl hk), some (.inl ex), some (.inl ey), some (.inl d0), none, none, none, none, none, none, none, none, none, none, none, none, none, none, none, none]) (by decide +kernel) (Nat.le_of_ble_eq_true rfl) rfl ?_
  have f1 := mulS (a := px - hk) (b := ex - hk) (A := 400) (B := 400) (by omega) (by omega)
  have f2 := mulS (a := py) (b := ey) (A := 400) (B := 400) (by omega) (by omega)
  have f3 := mulS (a := px - hk) (b := px - hk) (A := 400) (B := 400) (by omega) (by omega)
  have f4 := mulS (a := py) (b := py) (A := 400) (B := 400) (by omega) (by omega)
  have f5 := mulS (a := ex - hk) (b := ex - hk) (A := 400) (B := 400) (by omega) (by omega)
  have f6 := mulS (a := ey) (b := ey) (A := 400) (B := 400) (by omega) (by omega)
  have f7 := mulS (a := d0) (b := d0) (A := 50) (B := 50) (by omega) (by omega)
  have f8 := mulS (a := px - hk - (ex - hk)) (b := px - hk - (ex - hk)) (A := 400) (B := 400) (by omega) (by omega)
  have f9 := mulS (a := py - ey) (b := py - ey) (A := 400) (B := 400) (by omega) (by omega)
  have f10 := mulS (a := px - hk) (b := ey) (A := 400) (B := 400) (by omega) (by omega)
  have f11 := mulS (a := py) (b := ex - hk) (A := 400) (B := 400) (by omega) (by omega)
  have f12 := mulS (a := (px - hk) * ey - py * (ex - hk)) (b := (px - hk) * ey - py * (ex - hk)) (A := 320000) (B := 320000) (by omega) (by omega)
  have f13 := mulS (a := d0 * d0) (b := (ex - hk) * (ex - hk) + ey * ey) (A := 2500) (B := 320000) (by omega) (by omega)
  refine r_iload_n dX1_isAway_0 rfl rfl ?_
  refine r_iload_n dX1_isAway_1 rfl rfl ?_
  refine r_isub dX1_isAway_2 ?_
  refine r_i2l dX1_isAway_3 (by omega) ?_
  refine r_lstore (L' := [_, _, _, _, _, _, _, _, _, _, _, _, _, _, _, _, _, _, _, _, _, _]) dX1_isAway_4 rfl (by decide) rfl ?_
  refine r_iload dX1_isAway_6 rfl ?_
  refine r_i2l dX1_isAway_8 (by omega) ?_
  refine r_lstore (L' := [_, _, _, _, _, _, _, _, _, _, _, _, _, _, _, _, _, _, _, _, _, _]) dX1_isAway_9 rfl (by decide) rfl ?_
  refine r_iload_n dX1_isAway_11 rfl rfl ?_
  refine r_iload_n dX1_isAway_12 rfl rfl ?_
  refine r_isub dX1_isAway_13 ?_
  refine r_i2l dX1_isAway_14 (by omega) ?_
  refine r_lstore (L' := [_, _, _, _, _, _, _, _, _, _, _, _, _, _, _, _, _, _, _, _, _, _]) dX1_isAway_15 rfl (by decide) rfl ?_
  refine r_iload_n dX1_isAway_17 rfl rfl ?_
  refine r_i2l dX1_isAway_18 (by omega) ?_
  refine r_lstore (L' := [_, _, _, _, _, _, _, _, _, _, _, _, _, _, _, _, _, _, _, _, _, _]) dX1_isAway_19 rfl (by decide) rfl ?_
  refine r_iload dX1_isAway_21 rfl ?_
  refine r_i2l dX1_isAway_23 (by omega) ?_
  refine r_iload dX1_isAway_24 rfl ?_
  refine r_i2l dX1_isAway_26 (by omega) ?_
  refine r_lmul dX1_isAway_27 ?_
  refine r_lstore (L' := [_, _, _, _, _, _, _, _, _, _, _, _, _, _, _, _, _, _, _, _, _, _]) dX1_isAway_28 rfl (by decide) rfl ?_
  refine r_lload dX1_isAway_30 rfl ?_
  refine r_lload dX1_isAway_32 rfl ?_
  refine r_lmul dX1_isAway_34 ?_
  refine r_lload dX1_isAway_35 rfl ?_
  refine r_lload dX1_isAway_37 rfl ?_
  refine r_lmul dX1_isAway_39 ?_
  refine r_ladd dX1_isAway_40 ?_
  refine r_lstore (L' := [_, _, _, _, _, _, _, _, _, _, _, _, _, _, _, _, _, _, _, _, _, _]) dX1_isAway_41 rfl (by decide) rfl ?_
  refine r_lload dX1_isAway_43 rfl ?_
  refine r_lload dX1_isAway_45 rfl ?_
  refine r_lmul dX1_isAway_47 ?_
  refine r_lload dX1_isAway_48 rfl ?_
  refine r_lload dX1_isAway_50 rfl ?_
  refine r_lmul dX1_isAway_52 ?_
  refine r_ladd dX1_isAway_53 ?_
  refine r_lstore (L' := [_, _, _, _, _, _, _, _, _, _, _, _, _, _, _, _, _, _, _, _, _, _]) dX1_isAway_54 rfl (by decide) rfl ?_
  refine r_lload dX1_isAway_56 rfl ?_
  refine r_lconst (z := 0) dX1_isAway_58 (by decide +kernel) ?_
  refine r_lcmp_gt (tgt := 86) dX1_isAway_59 dX1_isAway_60 rfl (by omega) ⟨by decide, by decide⟩ (fun c_59 => ?_) (fun c_59 => ?_)
  · refine r_lload dX1_isAway_86 rfl ?_
    refine r_lload dX1_isAway_88 rfl ?_
    refine r_lcmp_lt (tgt := 129) dX1_isAway_90 dX1_isAway_91 rfl (by omega) (by omega) (fun c_90 => ?_) (fun c_90 => ?_)
    · refine r_lload dX1_isAway_129 rfl ?_
      refine r_lload dX1_isAway_131 rfl ?_
      refine r_lmul dX1_isAway_133 ?_
      refine r_lload dX1_isAway_134 rfl ?_
      refine r_lload dX1_isAway_136 rfl ?_
      refine r_lmul dX1_isAway_138 ?_
      refine r_lsub dX1_isAway_139 ?_
      refine r_lstore (L' := [_, _, _, _, _, _, _, _, _, _, _, _, _, _, _, _, _, _, _, _, _, _]) dX1_isAway_140 rfl (by decide) rfl ?_
      refine r_lload dX1_isAway_142 rfl ?_
      refine r_lload dX1_isAway_144 rfl ?_
      refine r_lmul dX1_isAway_146 ?_
      refine r_lload dX1_isAway_147 rfl ?_
      refine r_lload dX1_isAway_149 rfl ?_
      refine r_lmul dX1_isAway_151 ?_
      refine r_lcmp_lt (tgt := 160) dX1_isAway_152 dX1_isAway_153 rfl (by omega) (by omega) (fun c_152 => ?_) (fun c_152 => ?_)
      · refine r_iconst dX1_isAway_160 ?_
        refine r_zret dX1_isAway_161 rfl (.inl rfl) ?_
        exact ⟨_, rfl, kf (by unfold awP; omega)⟩
      · refine r_iconst dX1_isAway_156 ?_
        refine r_goto (tgt := 161) dX1_isAway_157 rfl ?_
        refine r_zret dX1_isAway_161 rfl (.inr rfl) ?_
        exact ⟨_, rfl, kt (by unfold awP; omega)⟩
    · refine r_lload dX1_isAway_94 rfl ?_
      refine r_lload dX1_isAway_96 rfl ?_
      refine r_lsub dX1_isAway_98 ?_
      refine r_lload dX1_isAway_99 rfl ?_
      refine r_lload dX1_isAway_101 rfl ?_
      refine r_lsub dX1_isAway_103 ?_
      refine r_lmul dX1_isAway_104 ?_
      refine r_lload dX1_isAway_105 rfl ?_
      refine r_lload dX1_isAway_107 rfl ?_
      refine r_lsub dX1_isAway_109 ?_
      refine r_lload dX1_isAway_110 rfl ?_
      refine r_lload dX1_isAway_112 rfl ?_
      refine r_lsub dX1_isAway_114 ?_
      refine r_lmul dX1_isAway_115 ?_
      refine r_ladd dX1_isAway_116 ?_
      refine r_lload dX1_isAway_117 rfl ?_
      refine r_lcmp_lt (tgt := 127) dX1_isAway_119 dX1_isAway_120 rfl (by omega) (by omega) (fun c_119 => ?_) (fun c_119 => ?_)
      · refine r_iconst dX1_isAway_127 ?_
        refine r_zret dX1_isAway_128 rfl (.inl rfl) ?_
        exact ⟨_, rfl, kf (by unfold awP; omega)⟩
      · refine r_iconst dX1_isAway_123 ?_
        refine r_goto (tgt := 128) dX1_isAway_124 rfl ?_
        refine r_zret dX1_isAway_128 rfl (.inr rfl) ?_
        exact ⟨_, rfl, kt (by unfold awP; omega)⟩
  · refine r_lload dX1_isAway_63 rfl ?_
    refine r_lload dX1_isAway_65 rfl ?_
    refine r_lmul dX1_isAway_67 ?_
    refine r_lload dX1_isAway_68 rfl ?_
    refine r_lload dX1_isAway_70 rfl ?_
    refine r_lmul dX1_isAway_72 ?_
    refine r_ladd dX1_isAway_73 ?_
    refine r_lload dX1_isAway_74 rfl ?_
    refine r_lcmp_lt (tgt := 84) dX1_isAway_76 dX1_isAway_77 rfl (by omega) (by omega) (fun c_76 => ?_) (fun c_76 => ?_)
    · refine r_iconst dX1_isAway_84 ?_
      refine r_zret dX1_isAway_85 rfl (.inl rfl) ?_
      exact ⟨_, rfl, kf (by unfold awP; omega)⟩
    · refine r_iconst dX1_isAway_80 ?_
      refine r_goto (tgt := 85) dX1_isAway_81 rfl ?_
      refine r_zret dX1_isAway_85 rfl (.inr rfl) ?_
      exact ⟨_, rfl, kt (by unfold awP; omega)⟩
set_option maxRecDepth 20000 in
set_option maxHeartbeats 400000 in
theorem sp_X12_isAway {d : Nat} (hd : 1 ≤ d) {px py hk ex ey d0 : Int} {h : Hp}  (h1 : 0 ≤ px ∧ px ≤ 400) (h2 : 0 ≤ py ∧ py ≤ 400) (h3 : 0 ≤ hk ∧ hk ≤ 400) (h4 : 0 ≤ ex ∧ ex ≤ 400) (h5 : 0 ≤ ey ∧ ey ≤ 400) (h6 : 0 ≤ d0 ∧ d0 ≤ 50) {P : Int → Hp → Prop} (kt : (awP px py hk ex ey d0) → P 1 h) (kf : ¬ (awP px py hk ex ey d0) → P 0 h) : Cl d mX12_isAway [.inr (.inl px), .inr (.inl py), .inr (.inl hk), .inr (.inl ex), .inr (.inl ey), .inr (.inl d0)] h (pI P) := by
  refine Cl.of (L := [some (.inr (.inl px)), none, some (.inr (.inl py)), none, some (.inr (.inl hk)), none, some (.inr (.inl ex)), none, some (.inr (.inl ey)), none, some (.inr (.inl d0)), none, none, none, none, none, none, none, none, none]) (by decide +kernel) (Nat.le_of_ble_eq_true rfl) rfl ?_
  have f1 := mulS (a := px - hk) (b := ex - hk) (A := 400) (B := 400) (by omega) (by omega)
  have f2 := mulS (a := py) (b := ey) (A := 400) (B := 400) (by omega) (by omega)
  have f3 := mulS (a := px - hk) (b := px - hk) (A := 400) (B := 400) (by omega) (by omega)
  have f4 := mulS (a := py) (b := py) (A := 400) (B := 400) (by omega) (by omega)
  have f5 := mulS (a := ex - hk) (b := ex - hk) (A := 400) (B := 400) (by omega) (by omega)
  have f6 := mulS (a := ey) (b := ey) (A := 400) (B := 400) (by omega) (by omega)
  have f7 := mulS (a := d0) (b := d0) (A := 50) (B := 50) (by omega) (by omega)
  have f8 := mulS (a := px - hk - (ex - hk)) (b := px - hk - (ex - hk)) (A := 400) (B := 400) (by omega) (by omega)
  have f9 := mulS (a := py - ey) (b := py - ey) (A := 400) (B := 400) (by omega) (by omega)
  have f10 := mulS (a := px - hk) (b := ey) (A := 400) (B := 400) (by omega) (by omega)
  have f11 := mulS (a := py) (b := ex - hk) (A := 400) (B := 400) (by omega) (by omega)
  have f12 := mulS (a := (px - hk) * ey - py * (ex - hk)) (b := (px - hk) * ey - py * (ex - hk)) (A := 320000) (B := 320000) (by omega) (by omega)
  have f13 := mulS (a := d0 * d0) (b := (ex - hk) * (ex - hk) + ey * ey) (A := 2500) (B := 320000) (by omega) (by omega)
  have e1 : (px - ex) * (px - ex) = (px - hk - (ex - hk)) * (px - hk - (ex - hk)) := by rw [show px - hk - (ex - hk) = px - ex by omega]
  have e2 : ((ex - hk) * py - ey * (px - hk)) * ((ex - hk) * py - ey * (px - hk)) = ((px - hk) * ey - py * (ex - hk)) * ((px - hk) * ey - py * (ex - hk)) := by grind
  refine r_lload dX12_isAway_0 rfl ?_
  refine r_lload dX12_isAway_2 rfl ?_
  refine r_lsub dX12_isAway_4 ?_
  refine r_lstore (L' := [_, _, _, _, _, _, _, _, _, _, _, _, _, _, _, _, _, _, _, _]) dX12_isAway_5 rfl (by decide) rfl ?_
  refine r_lload_n dX12_isAway_7 rfl rfl ?_
  refine r_lload dX12_isAway_8 rfl ?_
  refine r_lsub dX12_isAway_10 ?_
  refine r_lload dX12_isAway_11 rfl ?_
  refine r_lmul dX12_isAway_13 ?_
  refine r_lload_n dX12_isAway_14 rfl rfl ?_
  refine r_lload dX12_isAway_15 rfl ?_
  refine r_lmul dX12_isAway_17 ?_
  refine r_ladd dX12_isAway_18 ?_
  refine r_lstore (L' := [_, _, _, _, _, _, _, _, _, _, _, _, _, _, _, _, _, _, _, _]) dX12_isAway_19 rfl (by decide) rfl ?_
  refine r_lload dX12_isAway_21 rfl ?_
  refine r_lload dX12_isAway_23 rfl ?_
  refine r_lmul dX12_isAway_25 ?_
  refine r_lload dX12_isAway_26 rfl ?_
  refine r_lload dX12_isAway_28 rfl ?_
  refine r_lmul dX12_isAway_30 ?_
  refine r_ladd dX12_isAway_31 ?_
  refine r_lstore (L' := [_, _, _, _, _, _, _, _, _, _, _, _, _, _, _, _, _, _, _, _]) dX12_isAway_32 rfl (by decide) rfl ?_
  refine r_lload dX12_isAway_34 rfl ?_
  refine r_lconst (z := 0) dX12_isAway_36 (by decide +kernel) ?_
  refine r_lcmp_gt (tgt := 69) dX12_isAway_37 dX12_isAway_38 rfl (by omega) ⟨by decide, by decide⟩ (fun c_37 => ?_) (fun c_37 => ?_)
  · refine r_lload dX12_isAway_69 rfl ?_
    refine r_lload dX12_isAway_71 rfl ?_
    refine r_lcmp_lt (tgt := 111) dX12_isAway_73 dX12_isAway_74 rfl (by omega) (by omega) (fun c_73 => ?_) (fun c_73 => ?_)
    · refine r_lload dX12_isAway_111 rfl ?_
      refine r_lload_n dX12_isAway_113 rfl rfl ?_
      refine r_lmul dX12_isAway_114 ?_
      refine r_lload dX12_isAway_115 rfl ?_
      refine r_lload_n dX12_isAway_117 rfl rfl ?_
      refine r_lload dX12_isAway_118 rfl ?_
      refine r_lsub dX12_isAway_120 ?_
      refine r_lmul dX12_isAway_121 ?_
      refine r_lsub dX12_isAway_122 ?_
      refine r_lstore (L' := [_, _, _, _, _, _, _, _, _, _, _, _, _, _, _, _, _, _, _, _]) dX12_isAway_123 rfl (by decide) rfl ?_
      refine r_lload dX12_isAway_125 rfl ?_
      refine r_lload dX12_isAway_127 rfl ?_
      refine r_lmul dX12_isAway_129 ?_
      refine r_lload dX12_isAway_130 rfl ?_
      refine r_lload dX12_isAway_132 rfl ?_
      refine r_lmul dX12_isAway_134 ?_
      refine r_lload dX12_isAway_135 rfl ?_
      refine r_lmul dX12_isAway_137 ?_
      refine r_lcmp_lt (tgt := 146) dX12_isAway_138 dX12_isAway_139 rfl (by omega) (by omega) (fun c_138 => ?_) (fun c_138 => ?_)
      · refine r_iconst dX12_isAway_146 ?_
        refine r_zret dX12_isAway_147 rfl (.inl rfl) ?_
        exact ⟨_, rfl, kf (by unfold awP; omega)⟩
      · refine r_iconst dX12_isAway_142 ?_
        refine r_goto (tgt := 147) dX12_isAway_143 rfl ?_
        refine r_zret dX12_isAway_147 rfl (.inr rfl) ?_
        exact ⟨_, rfl, kt (by unfold awP; omega)⟩
    · refine r_lload_n dX12_isAway_77 rfl rfl ?_
      refine r_lload dX12_isAway_78 rfl ?_
      refine r_lsub dX12_isAway_80 ?_
      refine r_lload_n dX12_isAway_81 rfl rfl ?_
      refine r_lload dX12_isAway_82 rfl ?_
      refine r_lsub dX12_isAway_84 ?_
      refine r_lmul dX12_isAway_85 ?_
      refine r_lload_n dX12_isAway_86 rfl rfl ?_
      refine r_lload dX12_isAway_87 rfl ?_
      refine r_lsub dX12_isAway_89 ?_
      refine r_lload_n dX12_isAway_90 rfl rfl ?_
      refine r_lload dX12_isAway_91 rfl ?_
      refine r_lsub dX12_isAway_93 ?_
      refine r_lmul dX12_isAway_94 ?_
      refine r_ladd dX12_isAway_95 ?_
      refine r_lload dX12_isAway_96 rfl ?_
      refine r_lload dX12_isAway_98 rfl ?_
      refine r_lmul dX12_isAway_100 ?_
      refine r_lcmp_lt (tgt := 109) dX12_isAway_101 dX12_isAway_102 rfl (by omega) (by omega) (fun c_101 => ?_) (fun c_101 => ?_)
      · refine r_iconst dX12_isAway_109 ?_
        refine r_zret dX12_isAway_110 rfl (.inl rfl) ?_
        exact ⟨_, rfl, kf (by unfold awP; omega)⟩
      · refine r_iconst dX12_isAway_105 ?_
        refine r_goto (tgt := 110) dX12_isAway_106 rfl ?_
        refine r_zret dX12_isAway_110 rfl (.inr rfl) ?_
        exact ⟨_, rfl, kt (by unfold awP; omega)⟩
  · refine r_lload_n dX12_isAway_41 rfl rfl ?_
    refine r_lload dX12_isAway_42 rfl ?_
    refine r_lsub dX12_isAway_44 ?_
    refine r_lload_n dX12_isAway_45 rfl rfl ?_
    refine r_lload dX12_isAway_46 rfl ?_
    refine r_lsub dX12_isAway_48 ?_
    refine r_lmul dX12_isAway_49 ?_
    refine r_lload_n dX12_isAway_50 rfl rfl ?_
    refine r_lload_n dX12_isAway_51 rfl rfl ?_
    refine r_lmul dX12_isAway_52 ?_
    refine r_ladd dX12_isAway_53 ?_
    refine r_lload dX12_isAway_54 rfl ?_
    refine r_lload dX12_isAway_56 rfl ?_
    refine r_lmul dX12_isAway_58 ?_
    refine r_lcmp_lt (tgt := 67) dX12_isAway_59 dX12_isAway_60 rfl (by omega) (by omega) (fun c_59 => ?_) (fun c_59 => ?_)
    · refine r_iconst dX12_isAway_67 ?_
      refine r_zret dX12_isAway_68 rfl (.inl rfl) ?_
      exact ⟨_, rfl, kf (by unfold awP; omega)⟩
    · refine r_iconst dX12_isAway_63 ?_
      refine r_goto (tgt := 68) dX12_isAway_64 rfl ?_
      refine r_zret dX12_isAway_68 rfl (.inr rfl) ?_
      exact ⟨_, rfl, kt (by unfold awP; omega)⟩
/-- clear with the first one at place i, the other at place k -/
def clP (W v d0 : Int) (x y ox oy : Nat → Int) (i k : Nat) : Prop := awP (x i) (y i) v (ox k + v) (oy k) d0 ∧ awP (ox k + v) (oy k) W (x i) (y i) d0
def XY (W H : Int) (x y : Nat → Int) (n : Int) : Prop := ∀ p : Nat, (p : Int) ≤ n → 0 ≤ x p ∧ x p ≤ W ∧ 0 ≤ y p ∧ y p ≤ H
set_option maxRecDepth 20000 in
set_option maxHeartbeats 400000 in
theorem sp_X1_isClear {d : Nat} (hd : 2 ≤ d) {v d0 i k0 : Int} {h : Hp} {n n2 : Int} (hw : WOK h) (hv : 1 ≤ v ∧ v ≤ (h 1 0)) (hd0 : 0 ≤ d0 ∧ d0 ≤ 50) (hi : 0 ≤ i ∧ i ≤ n) (hk : 0 ≤ k0 ∧ k0 ≤ n2) (hn : n ≤ 150 ∧ n2 ≤ 150) (hx : XY (h 1 0) (h 1 1) (h 17) (h 18) n) (hx2 : XY (h 1 0) (h 1 1) (h 24) (h 25) n2) {P : Int → Hp → Prop} (kt : (clP (h 1 0) v d0 (h 17) (h 18) (h 24) (h 25) i.toNat k0.toNat) → P 1 h) (kf : ¬ (clP (h 1 0) v d0 (h 17) (h 18) (h 24) (h 25) i.toNat k0.toNat) → P 0 h) : Cl d mX1_isClear [.inr (.inr 41), .inl v, .inl d0, .inl i, .inl k0] h (pI P) := by
  refine Cl.of (L := [some (.inr (.inr 41)), some (.inl v), some (.inl d0), some (.inl i), some (.inl k0), none]) (by decide +kernel) (Nat.le_of_ble_eq_true rfl) rfl ?_
  obtain ⟨d, rfl⟩ : ∃ q, d = q + 1 := ⟨d - 1, by omega⟩
  have q1 := hx i.toNat (by omega)
  have q2 := hx2 k0.toNat (by omega)
  refine r_aload_n dX1_isClear_0 rfl rfl ?_
  refine r_getR dX1_isClear_1 fl_X1_42 sh_41 rfl ?_
  refine r_getR dX1_isClear_4 fl_X1_45 sh_23 rfl ?_
  refine r_iload dX1_isClear_7 rfl ?_
  refine r_iald dX1_isClear_9 sh_24 (by decide) (by omega) ?_
  refine r_iload_n dX1_isClear_10 rfl rfl ?_
  refine r_iadd dX1_isClear_11 ?_
  refine r_istore (L' := [_, _, _, _, _, _]) dX1_isClear_12 rfl (by decide) rfl ?_
  refine r_aload_n dX1_isClear_14 rfl rfl ?_
  refine r_getR dX1_isClear_15 fl_X1_38 sh_41 rfl ?_
  refine r_getR dX1_isClear_18 fl_X1_45 sh_16 rfl ?_
  refine r_iload_n dX1_isClear_21 rfl rfl ?_
  refine r_iald dX1_isClear_22 sh_17 (by decide) (by omega) ?_
  refine r_aload_n dX1_isClear_23 rfl rfl ?_
  refine r_getR dX1_isClear_24 fl_X1_38 sh_41 rfl ?_
  refine r_getR dX1_isClear_27 fl_X1_50 sh_16 rfl ?_
  refine r_iload_n dX1_isClear_30 rfl rfl ?_
  refine r_iald dX1_isClear_31 sh_18 (by decide) (by omega) ?_
  refine r_iload_n dX1_isClear_32 rfl rfl ?_
  refine r_iload dX1_isClear_33 rfl ?_
  refine r_aload_n dX1_isClear_35 rfl rfl ?_
  refine r_getR dX1_isClear_36 fl_X1_42 sh_41 rfl ?_
  refine r_getR dX1_isClear_39 fl_X1_50 sh_23 rfl ?_
  refine r_iload dX1_isClear_42 rfl ?_
  refine r_iald dX1_isClear_44 sh_25 (by decide) (by omega) ?_
  refine r_iload_n dX1_isClear_45 rfl rfl ?_
  refine r_callSI (av := [_, _, _, _, _, _]) (M' := mX1_isAway) dX1_isClear_46 sX1_isAway ml_X1_53 rfl rfl (by simp [wtA]) (sp_X1_isAway (by omega) (by omega) (by omega) (by omega) (by omega) (by omega) (by omega) (fun b_46 => ?_) (fun b_46 => ?_))
  · refine r_if_eq (tgt := 100) dX1_isClear_49 rfl ⟨by decide, by decide⟩ (fun c_49 => absurd c_49 (by decide)) (fun c_49 => ?_)
    refine r_iload dX1_isClear_52 rfl ?_
    refine r_aload_n dX1_isClear_54 rfl rfl ?_
    refine r_getR dX1_isClear_55 fl_X1_42 sh_41 rfl ?_
    refine r_getR dX1_isClear_58 fl_X1_50 sh_23 rfl ?_
    refine r_iload dX1_isClear_61 rfl ?_
    refine r_iald dX1_isClear_63 sh_25 (by decide) (by omega) ?_
    refine r_aload_n dX1_isClear_64 rfl rfl ?_
    refine r_getR dX1_isClear_65 fl_X1_34 sh_41 rfl ?_
    refine r_getI dX1_isClear_68 fl_X1_57 sh_1 rfl ?_
    refine r_aload_n dX1_isClear_71 rfl rfl ?_
    refine r_getR dX1_isClear_72 fl_X1_38 sh_41 rfl ?_
    refine r_getR dX1_isClear_75 fl_X1_45 sh_16 rfl ?_
    refine r_iload_n dX1_isClear_78 rfl rfl ?_
    refine r_iald dX1_isClear_79 sh_17 (by decide) (by omega) ?_
    refine r_aload_n dX1_isClear_80 rfl rfl ?_
    refine r_getR dX1_isClear_81 fl_X1_38 sh_41 rfl ?_
    refine r_getR dX1_isClear_84 fl_X1_50 sh_16 rfl ?_
    refine r_iload_n dX1_isClear_87 rfl rfl ?_
    refine r_iald dX1_isClear_88 sh_18 (by decide) (by omega) ?_
    refine r_iload_n dX1_isClear_89 rfl rfl ?_
    refine r_callSI (av := [_, _, _, _, _, _]) (M' := mX1_isAway) dX1_isClear_90 sX1_isAway ml_X1_53 rfl rfl (by simp [wtA]) (sp_X1_isAway (by omega) (by omega) (by omega) (by omega) (by omega) (by omega) (by omega) (fun b_90 => ?_) (fun b_90 => ?_))
    · refine r_if_eq (tgt := 100) dX1_isClear_93 rfl ⟨by decide, by decide⟩ (fun c_93 => absurd c_93 (by decide)) (fun c_93 => ?_)
      refine r_iconst dX1_isClear_96 ?_
      refine r_goto (tgt := 101) dX1_isClear_97 rfl ?_
      refine r_zret dX1_isClear_101 rfl (.inr rfl) ?_
      exact ⟨_, rfl, kt ⟨b_46, b_90⟩⟩
    · refine r_if_eq (tgt := 100) dX1_isClear_93 rfl ⟨by decide, by decide⟩ (fun c_93 => ?_) (fun c_93 => absurd c_93 (by decide))
      refine r_iconst dX1_isClear_100 ?_
      refine r_zret dX1_isClear_101 rfl (.inl rfl) ?_
      first
        | exact ⟨_, rfl, kf (fun z => b_90 z.2)⟩
        | exact ⟨_, rfl, kf (fun z => b_46 z.1)⟩
  · refine r_if_eq (tgt := 100) dX1_isClear_49 rfl ⟨by decide, by decide⟩ (fun c_49 => ?_) (fun c_49 => absurd c_49 (by decide))
    refine r_iconst dX1_isClear_100 ?_
    refine r_zret dX1_isClear_101 rfl (.inl rfl) ?_
    first
      | exact ⟨_, rfl, kf (fun z => b_90 z.2)⟩
      | exact ⟨_, rfl, kf (fun z => b_46 z.1)⟩
set_option maxRecDepth 20000 in
set_option maxHeartbeats 400000 in
theorem sp_X12_isClear {d : Nat} (hd : 2 ≤ d) {v d0 i k0 : Int} {h : Hp} {n n2 : Int} (hw : MOK h) (hv : 1 ≤ v ∧ v ≤ (h 49 3)) (hd0 : 0 ≤ d0 ∧ d0 ≤ 50) (hi : 0 ≤ i ∧ i ≤ n) (hk : 0 ≤ k0 ∧ k0 ≤ n2) (hn : n ≤ 150 ∧ n2 ≤ 150) (hx : MXY (h 49 3) (h 49 4) (h 60) (h 61) 0 n) (hx2 : MXY (h 49 3) (h 49 4) (h 60) (h 61) 151 n2) {P : Int → Hp → Prop} (kt : (clP (h 49 3) v d0 (h 60) (h 61) (fun p => h 60 (151 + p)) (fun p => h 61 (151 + p)) i.toNat k0.toNat) → P 1 h) (kf : ¬ (clP (h 49 3) v d0 (h 60) (h 61) (fun p => h 60 (151 + p)) (fun p => h 61 (151 + p)) i.toNat k0.toNat) → P 0 h) : Cl d mX12_isClear [.inr (.inr 49), .inl v, .inl d0, .inl i, .inl k0] h (pI P) := by
  refine Cl.of (L := [some (.inr (.inr 49)), some (.inl v), some (.inl d0), some (.inl i), some (.inl k0), none, none, none, none]) (by decide +kernel) (Nat.le_of_ble_eq_true rfl) rfl ?_
  obtain ⟨d, rfl⟩ : ∃ q, d = q + 1 := ⟨d - 1, by omega⟩
  have q1 := hx i.toNat (by omega)
  rw [Nat.zero_add] at q1
  have q2 := hx2 k0.toNat (by omega)
  have e1 : (151 + k0).toNat = 151 + k0.toNat := by omega
  rw [← e1] at q2
  refine r_aload_n dX12_isClear_0 rfl rfl ?_
  refine r_getR dX12_isClear_1 fl_X12_59 sh_49 rfl ?_
  refine r_iload_n dX12_isClear_4 rfl rfl ?_
  refine r_iald dX12_isClear_5 sh_60 (by decide) (by omega) ?_
  refine r_istore (L' := [_, _, _, _, _, _, _, _, _]) dX12_isClear_6 rfl (by decide) rfl ?_
  refine r_aload_n dX12_isClear_8 rfl rfl ?_
  refine r_getR dX12_isClear_9 fl_X12_62 sh_49 rfl ?_
  refine r_iload_n dX12_isClear_12 rfl rfl ?_
  refine r_iald dX12_isClear_13 sh_61 (by decide) (by omega) ?_
  refine r_istore (L' := [_, _, _, _, _, _, _, _, _]) dX12_isClear_14 rfl (by decide) rfl ?_
  refine r_aload_n dX12_isClear_16 rfl rfl ?_
  refine r_getR dX12_isClear_17 fl_X12_59 sh_49 rfl ?_
  refine r_sipush dX12_isClear_20 (by decide +kernel) ?_
  refine r_iload dX12_isClear_23 rfl ?_
  refine r_iadd dX12_isClear_25 ?_
  refine r_iald dX12_isClear_26 sh_60 (by decide) (by omega) ?_
  refine r_iload_n dX12_isClear_27 rfl rfl ?_
  refine r_iadd dX12_isClear_28 ?_
  refine r_istore (L' := [_, _, _, _, _, _, _, _, _]) dX12_isClear_29 rfl (by decide) rfl ?_
  refine r_aload_n dX12_isClear_31 rfl rfl ?_
  refine r_getR dX12_isClear_32 fl_X12_62 sh_49 rfl ?_
  refine r_sipush dX12_isClear_35 (by decide +kernel) ?_
  refine r_iload dX12_isClear_38 rfl ?_
  refine r_iadd dX12_isClear_40 ?_
  refine r_iald dX12_isClear_41 sh_61 (by decide) (by omega) ?_
  refine r_istore (L' := [_, _, _, _, _, _, _, _, _]) dX12_isClear_42 rfl (by decide) rfl ?_
  refine r_iload dX12_isClear_44 rfl ?_
  refine r_i2l dX12_isClear_46 (by omega) ?_
  refine r_iload dX12_isClear_47 rfl ?_
  refine r_i2l dX12_isClear_49 (by omega) ?_
  refine r_iload_n dX12_isClear_50 rfl rfl ?_
  refine r_i2l dX12_isClear_51 (by omega) ?_
  refine r_iload dX12_isClear_52 rfl ?_
  refine r_i2l dX12_isClear_54 (by omega) ?_
  refine r_iload dX12_isClear_55 rfl ?_
  refine r_i2l dX12_isClear_57 (by omega) ?_
  refine r_iload_n dX12_isClear_58 rfl rfl ?_
  refine r_i2l dX12_isClear_59 (by omega) ?_
  refine r_callSI (av := [_, _, _, _, _, _]) (M' := mX12_isAway) dX12_isClear_60 sX12_isAway ml_X12_407 rfl rfl (by simp [wtA]) (sp_X12_isAway (by omega) (by omega) (by omega) (by omega) (by omega) (by omega) (by omega) (fun b_60 => ?_) (fun b_60 => ?_))
  · refine r_if_eq (tgt := 95) dX12_isClear_63 rfl ⟨by decide, by decide⟩ (fun c_63 => absurd c_63 (by decide)) (fun c_63 => ?_)
    refine r_iload dX12_isClear_66 rfl ?_
    refine r_i2l dX12_isClear_68 (by omega) ?_
    refine r_iload dX12_isClear_69 rfl ?_
    refine r_i2l dX12_isClear_71 (by omega) ?_
    refine r_aload_n dX12_isClear_72 rfl rfl ?_
    refine r_getI dX12_isClear_73 fl_X12_13 sh_49 rfl ?_
    refine r_i2l dX12_isClear_76 (by omega) ?_
    refine r_iload dX12_isClear_77 rfl ?_
    refine r_i2l dX12_isClear_79 (by omega) ?_
    refine r_iload dX12_isClear_80 rfl ?_
    refine r_i2l dX12_isClear_82 (by omega) ?_
    refine r_iload_n dX12_isClear_83 rfl rfl ?_
    refine r_i2l dX12_isClear_84 (by omega) ?_
    refine r_callSI (av := [_, _, _, _, _, _]) (M' := mX12_isAway) dX12_isClear_85 sX12_isAway ml_X12_407 rfl rfl (by simp [wtA]) (sp_X12_isAway (by omega) (by omega) (by omega) (by omega) (by omega) (by omega) (by omega) (fun b_85 => ?_) (fun b_85 => ?_))
    · refine r_if_eq (tgt := 95) dX12_isClear_88 rfl ⟨by decide, by decide⟩ (fun c_88 => absurd c_88 (by decide)) (fun c_88 => ?_)
      refine r_iconst dX12_isClear_91 ?_
      refine r_goto (tgt := 96) dX12_isClear_92 rfl ?_
      refine r_zret dX12_isClear_96 rfl (.inr rfl) ?_
      rw [e1] at b_60 b_85
      exact ⟨_, rfl, kt ⟨b_60, b_85⟩⟩
    · refine r_if_eq (tgt := 95) dX12_isClear_88 rfl ⟨by decide, by decide⟩ (fun c_88 => ?_) (fun c_88 => absurd c_88 (by decide))
      refine r_iconst dX12_isClear_95 ?_
      refine r_zret dX12_isClear_96 rfl (.inl rfl) ?_
      first
        | (rw [e1] at b_85; exact ⟨_, rfl, kf (fun z => b_85 z.2)⟩)
        | (rw [e1] at b_60; exact ⟨_, rfl, kf (fun z => b_60 z.1)⟩)
  · refine r_if_eq (tgt := 95) dX12_isClear_63 rfl ⟨by decide, by decide⟩ (fun c_63 => ?_) (fun c_63 => absurd c_63 (by decide))
    refine r_iconst dX12_isClear_95 ?_
    refine r_zret dX12_isClear_96 rfl (.inl rfl) ?_
    first
      | (rw [e1] at b_85; exact ⟨_, rfl, kf (fun z => b_85 z.2)⟩)
      | (rw [e1] at b_60; exact ⟨_, rfl, kf (fun z => b_60 z.1)⟩)
set_option maxRecDepth 20000 in
set_option maxHeartbeats 400000 in
theorem sp_X11_isPairing {d : Nat} (hd : 2 ≤ d) {v d0 : Int} {h : Hp}  (hw : WOK h) (hv : R32 v) (hd0 : R32 d0) {P : Int → Hp → Prop} (kt : ((1 ≤ v ∧ v ≤ (h 1 0)) ∧ (0 ≤ d0 ∧ d0 ≤ 50)) → P 1 h) (kf : ¬ ((1 ≤ v ∧ v ≤ (h 1 0)) ∧ (0 ≤ d0 ∧ d0 ≤ 50)) → P 0 h) : Cl d mX11_isPairing [.inr (.inr 0), .inl v, .inl d0] h (pI P) := by
  refine Cl.of (L := [some (.inr (.inr 0)), some (.inl v), some (.inl d0)]) (by decide +kernel) (Nat.le_of_ble_eq_true rfl) rfl ?_
  obtain ⟨d, rfl⟩ : ∃ q, d = q + 1 := ⟨d - 1, by omega⟩
  refine r_iload_n dX11_isPairing_0 rfl rfl ?_
  refine r_iconst dX11_isPairing_1 ?_
  refine r_aload_n dX11_isPairing_2 rfl rfl ?_
  refine r_getR dX11_isPairing_3 fl_X11_10 sh_0 rfl ?_
  refine r_getI dX11_isPairing_6 fl_X11_120 sh_1 rfl ?_
  refine r_callSI (av := [_, _, _]) (M' := mX11_isWithin) dX11_isPairing_9 sX11_isWithin ml_X11_116 rfl rfl (by simp [wtA]) (sp_X11_isWithin (by omega) (by omega) (by omega) (by omega) (fun b_9 => ?_) (fun b_9 => ?_))
  · refine r_if_eq (tgt := 29) dX11_isPairing_12 rfl ⟨by decide, by decide⟩ (fun c_12 => absurd c_12 (by decide)) (fun c_12 => ?_)
    refine r_iload_n dX11_isPairing_15 rfl rfl ?_
    refine r_iconst dX11_isPairing_16 ?_
    refine r_bipush dX11_isPairing_17 (by decide +kernel) ?_
    refine r_callSI (av := [_, _, _]) (M' := mX11_isWithin) dX11_isPairing_19 sX11_isWithin ml_X11_116 rfl rfl (by simp [wtA]) (sp_X11_isWithin (by omega) (by omega) (by omega) (by omega) (fun b_19 => ?_) (fun b_19 => ?_))
    · refine r_if_eq (tgt := 29) dX11_isPairing_22 rfl ⟨by decide, by decide⟩ (fun c_22 => absurd c_22 (by decide)) (fun c_22 => ?_)
      refine r_iconst dX11_isPairing_25 ?_
      refine r_goto (tgt := 30) dX11_isPairing_26 rfl ?_
      refine r_zret dX11_isPairing_30 rfl (.inr rfl) ?_
      exact ⟨_, rfl, kt (by omega)⟩
    · refine r_if_eq (tgt := 29) dX11_isPairing_22 rfl ⟨by decide, by decide⟩ (fun c_22 => ?_) (fun c_22 => absurd c_22 (by decide))
      refine r_iconst dX11_isPairing_29 ?_
      refine r_zret dX11_isPairing_30 rfl (.inl rfl) ?_
      exact ⟨_, rfl, kf (by omega)⟩
  · refine r_if_eq (tgt := 29) dX11_isPairing_12 rfl ⟨by decide, by decide⟩ (fun c_12 => ?_) (fun c_12 => absurd c_12 (by decide))
    refine r_iconst dX11_isPairing_29 ?_
    refine r_zret dX11_isPairing_30 rfl (.inl rfl) ?_
    exact ⟨_, rfl, kf (by omega)⟩
set_option maxRecDepth 20000 in
set_option maxHeartbeats 400000 in
theorem sp_X12_isBeside {d : Nat} (hd : 2 ≤ d) {v : Int} {h : Hp}  (hw : MOK h) (hv : R32 v) {P : Int → Hp → Prop} (kt : (1 ≤ v ∧ v ≤ (h 49 3)) → P 1 h) (kf : ¬ (1 ≤ v ∧ v ≤ (h 49 3)) → P 0 h) : Cl d mX12_isBeside [.inr (.inr 49), .inl v] h (pI P) := by
  refine Cl.of (L := [some (.inr (.inr 49)), some (.inl v)]) (by decide +kernel) (Nat.le_of_ble_eq_true rfl) rfl ?_
  obtain ⟨d, rfl⟩ : ∃ q, d = q + 1 := ⟨d - 1, by omega⟩
  refine r_iload_n dX12_isBeside_0 rfl rfl ?_
  refine r_iconst dX12_isBeside_1 ?_
  refine r_aload_n dX12_isBeside_2 rfl rfl ?_
  refine r_getI dX12_isBeside_3 fl_X12_13 sh_49 rfl ?_
  refine r_callSI (av := [_, _, _]) (M' := mX12_isIn) dX12_isBeside_6 sX12_isIn ml_X12_160 rfl rfl (by simp [wtA]) (sp_X12_isIn (by omega) (by omega) (by omega) (by omega) (fun b_6 => ?_) (fun b_6 => ?_))
  · refine r_zret dX12_isBeside_9 rfl (.inr rfl) ?_
    exact ⟨_, rfl, kt (by omega)⟩
  · refine r_zret dX12_isBeside_9 rfl (.inl rfl) ?_
    exact ⟨_, rfl, kf (by omega)⟩
set_option maxRecDepth 20000 in
set_option maxHeartbeats 400000 in
theorem sp_X11_clear {d : Nat} (hd : 3 ≤ d) {v d0 i k0 : Int} {h : Hp}  (hw : WOK h) (hv : R32 v) (hd0 : R32 d0) (hi : R32 i) (hk : R32 k0) (hn : 0 ≤ (h 16 0) ∧ (h 16 0) ≤ 150) (hn2 : 0 ≤ (h 23 0) ∧ (h 23 0) ≤ 150) (hx : XY (h 1 0) (h 1 1) (h 17) (h 18) (h 16 0)) (hx2 : XY (h 1 0) (h 1 1) (h 24) (h 25) (h 23 0)) {P : Int → Hp → Prop} (k1 : (((1 ≤ v ∧ v ≤ (h 1 0)) ∧ (0 ≤ d0 ∧ d0 ≤ 50)) ∧ (0 ≤ i ∧ i ≤ (h 16 0)) ∧ (0 ≤ k0 ∧ k0 ≤ (h 23 0))) → clP (h 1 0) v d0 (h 17) (h 18) (h 24) (h 25) i.toNat k0.toNat → P 1 h) (kz : (((1 ≤ v ∧ v ≤ (h 1 0)) ∧ (0 ≤ d0 ∧ d0 ≤ 50)) ∧ (0 ≤ i ∧ i ≤ (h 16 0)) ∧ (0 ≤ k0 ∧ k0 ≤ (h 23 0))) → ¬ clP (h 1 0) v d0 (h 17) (h 18) (h 24) (h 25) i.toNat k0.toNat → P 0 h) (kf : ¬ (((1 ≤ v ∧ v ≤ (h 1 0)) ∧ (0 ≤ d0 ∧ d0 ≤ 50)) ∧ (0 ≤ i ∧ i ≤ (h 16 0)) ∧ (0 ≤ k0 ∧ k0 ≤ (h 23 0))) → P (-1) h) : Cl d mX11_clear [.inr (.inr 0), .inl v, .inl d0, .inl i, .inl k0] h (pI P) := by
  refine Cl.of (L := [some (.inr (.inr 0)), some (.inl v), some (.inl d0), some (.inl i), some (.inl k0)]) (by decide +kernel) (Nat.le_of_ble_eq_true rfl) rfl ?_
  obtain ⟨d, rfl⟩ : ∃ q, d = q + 1 := ⟨d - 1, by omega⟩
  refine r_aload_n dX11_clear_0 rfl rfl ?_
  refine r_iload_n dX11_clear_1 rfl rfl ?_
  refine r_iload_n dX11_clear_2 rfl rfl ?_
  refine r_callVI (av := [_, _]) (M' := mX11_isPairing) dX11_clear_3 vX11_isPairing ml_X11_279 sh_0 (by decide) rfl rfl rfl rfl (by simp [wtA]) (sp_X11_isPairing (by omega) (by omega) (by omega) (by omega) (fun b_3 => ?_) (fun b_3 => ?_))
  · refine r_if_eq (tgt := 40) dX11_clear_6 rfl ⟨by decide, by decide⟩ (fun c_6 => absurd c_6 (by decide)) (fun c_6 => ?_)
    refine r_iload_n dX11_clear_9 rfl rfl ?_
    refine r_iconst dX11_clear_10 ?_
    refine r_aload_n dX11_clear_11 rfl rfl ?_
    refine r_getR dX11_clear_12 fl_X11_44 sh_0 rfl ?_
    refine r_getI dX11_clear_15 fl_X11_155 sh_16 rfl ?_
    refine r_callSI (av := [_, _, _]) (M' := mX11_isWithin) dX11_clear_18 sX11_isWithin ml_X11_116 rfl rfl (by simp [wtA]) (sp_X11_isWithin (by omega) (by omega) (by omega) (by omega) (fun b_18 => ?_) (fun b_18 => ?_))
    · refine r_if_eq (tgt := 40) dX11_clear_21 rfl ⟨by decide, by decide⟩ (fun c_21 => absurd c_21 (by decide)) (fun c_21 => ?_)
      refine r_iload dX11_clear_24 rfl ?_
      refine r_iconst dX11_clear_26 ?_
      refine r_aload_n dX11_clear_27 rfl rfl ?_
      refine r_getR dX11_clear_28 fl_X11_48 sh_0 rfl ?_
      refine r_getI dX11_clear_31 fl_X11_155 sh_23 rfl ?_
      refine r_callSI (av := [_, _, _]) (M' := mX11_isWithin) dX11_clear_34 sX11_isWithin ml_X11_116 rfl rfl (by simp [wtA]) (sp_X11_isWithin (by omega) (by omega) (by omega) (by omega) (fun b_34 => ?_) (fun b_34 => ?_))
      · refine r_if_ne (tgt := 42) dX11_clear_37 rfl ⟨by decide, by decide⟩ (fun c_37 => ?_) (fun c_37 => absurd c_37 (by decide))
        refine r_aload_n dX11_clear_42 rfl rfl ?_
        refine r_getR dX11_clear_43 fl_X11_81 sh_0 rfl ?_
        refine r_iload_n dX11_clear_46 rfl rfl ?_
        refine r_iload_n dX11_clear_47 rfl rfl ?_
        refine r_iload_n dX11_clear_48 rfl rfl ?_
        refine r_iload dX11_clear_49 rfl ?_
        refine r_callVI (av := [_, _, _, _]) (M' := mX1_isClear) dX11_clear_51 vX1_isClear ml_X11_282 sh_41 (by decide) rfl rfl rfl rfl (by simp [wtA]) (sp_X1_isClear (by omega) (by omega) (by omega) (by omega) (n := (h 16 0)) (by omega) (n2 := (h 23 0)) (by omega) (by omega) hx hx2 (fun b_51 => ?_) (fun b_51 => ?_))
        · refine r_if_eq (tgt := 61) dX11_clear_54 rfl ⟨by decide, by decide⟩ (fun c_54 => absurd c_54 (by decide)) (fun c_54 => ?_)
          refine r_iconst dX11_clear_57 ?_
          refine r_goto (tgt := 62) dX11_clear_58 rfl ?_
          refine r_iret dX11_clear_62 rfl ?_
          exact ⟨_, rfl, k1 (by omega) b_51⟩
        · refine r_if_eq (tgt := 61) dX11_clear_54 rfl ⟨by decide, by decide⟩ (fun c_54 => ?_) (fun c_54 => absurd c_54 (by decide))
          refine r_iconst dX11_clear_61 ?_
          refine r_iret dX11_clear_62 rfl ?_
          exact ⟨_, rfl, kz (by omega) b_51⟩
      · refine r_if_ne (tgt := 42) dX11_clear_37 rfl ⟨by decide, by decide⟩ (fun c_37 => absurd c_37 (by decide)) (fun c_37 => ?_)
        refine r_iconst dX11_clear_40 ?_
        refine r_iret dX11_clear_41 rfl ?_
        exact ⟨_, rfl, kf (by omega)⟩
    · refine r_if_eq (tgt := 40) dX11_clear_21 rfl ⟨by decide, by decide⟩ (fun c_21 => ?_) (fun c_21 => absurd c_21 (by decide))
      refine r_iconst dX11_clear_40 ?_
      refine r_iret dX11_clear_41 rfl ?_
      exact ⟨_, rfl, kf (by omega)⟩
  · refine r_if_eq (tgt := 40) dX11_clear_6 rfl ⟨by decide, by decide⟩ (fun c_6 => ?_) (fun c_6 => absurd c_6 (by decide))
    refine r_iconst dX11_clear_40 ?_
    refine r_iret dX11_clear_41 rfl ?_
    exact ⟨_, rfl, kf (by omega)⟩
set_option maxRecDepth 20000 in
set_option maxHeartbeats 400000 in
theorem sp_X12_clear {d : Nat} (hd : 3 ≤ d) {v d0 i k0 : Int} {h : Hp}  (hw : MOK h) (hv : R32 v) (hd0 : R32 d0) (hi : R32 i) (hk : R32 k0) (hn : 0 ≤ (h 49 29) ∧ (h 49 29) ≤ 150) (hn2 : 0 ≤ (h 49 30) ∧ (h 49 30) ≤ 150) (hx : MXY (h 49 3) (h 49 4) (h 60) (h 61) 0 (h 49 29)) (hx2 : MXY (h 49 3) (h 49 4) (h 60) (h 61) 151 (h 49 30)) {P : Int → Hp → Prop} (k1 : (((1 ≤ v ∧ v ≤ (h 49 3)) ∧ (0 ≤ d0 ∧ d0 ≤ 50)) ∧ (0 ≤ i ∧ i ≤ (h 49 29)) ∧ (0 ≤ k0 ∧ k0 ≤ (h 49 30))) → clP (h 49 3) v d0 (h 60) (h 61) (fun p => h 60 (151 + p)) (fun p => h 61 (151 + p)) i.toNat k0.toNat → ∀ g : Hp, FrM h g → P 1 g) (kz : (((1 ≤ v ∧ v ≤ (h 49 3)) ∧ (0 ≤ d0 ∧ d0 ≤ 50)) ∧ (0 ≤ i ∧ i ≤ (h 49 29)) ∧ (0 ≤ k0 ∧ k0 ≤ (h 49 30))) → ¬ clP (h 49 3) v d0 (h 60) (h 61) (fun p => h 60 (151 + p)) (fun p => h 61 (151 + p)) i.toNat k0.toNat → ∀ g : Hp, FrM h g → P 0 g) (kf : ¬ (((1 ≤ v ∧ v ≤ (h 49 3)) ∧ (0 ≤ d0 ∧ d0 ≤ 50)) ∧ (0 ≤ i ∧ i ≤ (h 49 29)) ∧ (0 ≤ k0 ∧ k0 ≤ (h 49 30))) → ∀ g : Hp, FrM h g → P (-1) g) : Cl d mX12_clear [.inr (.inr 49), .inl v, .inl d0, .inl i, .inl k0] h (pI P) := by
  refine Cl.of (L := [some (.inr (.inr 49)), some (.inl v), some (.inl d0), some (.inl i), some (.inl k0)]) (by decide +kernel) (Nat.le_of_ble_eq_true rfl) rfl ?_
  obtain ⟨d, rfl⟩ : ∃ q, d = q + 1 := ⟨d - 1, by omega⟩
  refine r_aload_n dX12_clear_0 rfl rfl ?_
  refine r_iconst dX12_clear_1 ?_
  refine r_putI dX12_clear_2 fl_X12_127 sh_49 rfl ?_
  refine r_gh (fun g eg => ?_)
  have f : FrM h g := by rw [eg]; exact FrM.rf.up rfl
  have e3 : g 49 3 = h 49 3 := f 49 3 rfl
  have e4 : g 49 4 = h 49 4 := f 49 4 rfl
  have e5 : g 49 5 = h 49 5 := f 49 5 rfl
  have e6 : g 49 6 = h 49 6 := f 49 6 rfl
  have e7 : g 49 7 = h 49 7 := f 49 7 rfl
  have e8 : g 49 8 = h 49 8 := f 49 8 rfl
  have e29 : g 49 29 = h 49 29 := f 49 29 rfl
  have e30 : g 49 30 = h 49 30 := f 49 30 rfl
  have ea60 : g 60 = h 60 := funext fun j => f 60 j rfl
  have ea61 : g 61 = h 61 := funext fun j => f 61 j rfl
  have w : MOK g := by omega
  rw [← e3, ← e4, ← e29, ← ea60, ← ea61] at hx
  rw [← e3, ← e4, ← e30, ← ea60, ← ea61] at hx2
  rw [← e3, ← ea60, ← ea61] at k1 kz
  refine r_aload_n dX12_clear_5 rfl rfl ?_
  refine r_iload_n dX12_clear_6 rfl rfl ?_
  refine r_callVI (av := [_]) (M' := mX12_isBeside) dX12_clear_7 vX12_isBeside ml_X12_411 sh_49 (by decide) rfl rfl rfl rfl (by simp [wtA]) (sp_X12_isBeside (by omega) (by omega) (by omega) (fun b_7 => ?_) (fun b_7 => ?_))
  · refine r_if_eq (tgt := 48) dX12_clear_10 rfl ⟨by decide, by decide⟩ (fun c_10 => absurd c_10 (by decide)) (fun c_10 => ?_)
    refine r_iload_n dX12_clear_13 rfl rfl ?_
    refine r_iconst dX12_clear_14 ?_
    refine r_bipush dX12_clear_15 (by decide +kernel) ?_
    refine r_callSI (av := [_, _, _]) (M' := mX12_isIn) dX12_clear_17 sX12_isIn ml_X12_160 rfl rfl (by simp [wtA]) (sp_X12_isIn (by omega) (by omega) (by omega) (by omega) (fun b_17 => ?_) (fun b_17 => ?_))
    · refine r_if_eq (tgt := 48) dX12_clear_20 rfl ⟨by decide, by decide⟩ (fun c_20 => absurd c_20 (by decide)) (fun c_20 => ?_)
      refine r_iload_n dX12_clear_23 rfl rfl ?_
      refine r_iconst dX12_clear_24 ?_
      refine r_aload_n dX12_clear_25 rfl rfl ?_
      refine r_getI dX12_clear_26 fl_X12_164 sh_49 rfl ?_
      refine r_callSI (av := [_, _, _]) (M' := mX12_isIn) dX12_clear_29 sX12_isIn ml_X12_160 rfl rfl (by simp [wtA]) (sp_X12_isIn (by omega) (by omega) (by omega) (by omega) (fun b_29 => ?_) (fun b_29 => ?_))
      · refine r_if_eq (tgt := 48) dX12_clear_32 rfl ⟨by decide, by decide⟩ (fun c_32 => absurd c_32 (by decide)) (fun c_32 => ?_)
        refine r_iload dX12_clear_35 rfl ?_
        refine r_iconst dX12_clear_37 ?_
        refine r_aload_n dX12_clear_38 rfl rfl ?_
        refine r_getI dX12_clear_39 fl_X12_171 sh_49 rfl ?_
        refine r_callSI (av := [_, _, _]) (M' := mX12_isIn) dX12_clear_42 sX12_isIn ml_X12_160 rfl rfl (by simp [wtA]) (sp_X12_isIn (by omega) (by omega) (by omega) (by omega) (fun b_42 => ?_) (fun b_42 => ?_))
        · refine r_if_ne (tgt := 50) dX12_clear_45 rfl ⟨by decide, by decide⟩ (fun c_45 => ?_) (fun c_45 => absurd c_45 (by decide))
          refine r_aload_n dX12_clear_50 rfl rfl ?_
          refine r_iload_n dX12_clear_51 rfl rfl ?_
          refine r_iload_n dX12_clear_52 rfl rfl ?_
          refine r_iload_n dX12_clear_53 rfl rfl ?_
          refine r_iload dX12_clear_54 rfl ?_
          refine r_callVI (av := [_, _, _, _]) (M' := mX12_isClear) dX12_clear_56 vX12_isClear ml_X12_414 sh_49 (by decide) rfl rfl rfl rfl (by simp [wtA]) (sp_X12_isClear (by omega) (by omega) (by omega) (by omega) (n := (g 49 29)) (by omega) (n2 := (g 49 30)) (by omega) (by omega) hx hx2 (fun b_56 => ?_) (fun b_56 => ?_))
          · refine r_if_eq (tgt := 66) dX12_clear_59 rfl ⟨by decide, by decide⟩ (fun c_59 => absurd c_59 (by decide)) (fun c_59 => ?_)
            refine r_iconst dX12_clear_62 ?_
            refine r_goto (tgt := 67) dX12_clear_63 rfl ?_
            refine r_iret dX12_clear_67 rfl ?_
            exact ⟨_, rfl, k1 (by omega) b_56 _ f⟩
          · refine r_if_eq (tgt := 66) dX12_clear_59 rfl ⟨by decide, by decide⟩ (fun c_59 => ?_) (fun c_59 => absurd c_59 (by decide))
            refine r_iconst dX12_clear_66 ?_
            refine r_iret dX12_clear_67 rfl ?_
            exact ⟨_, rfl, kz (by omega) b_56 _ f⟩
        · refine r_if_ne (tgt := 50) dX12_clear_45 rfl ⟨by decide, by decide⟩ (fun c_45 => absurd c_45 (by decide)) (fun c_45 => ?_)
          refine r_iconst dX12_clear_48 ?_
          refine r_iret dX12_clear_49 rfl ?_
          exact ⟨_, rfl, kf (by omega) _ f⟩
      · refine r_if_eq (tgt := 48) dX12_clear_32 rfl ⟨by decide, by decide⟩ (fun c_32 => ?_) (fun c_32 => absurd c_32 (by decide))
        refine r_iconst dX12_clear_48 ?_
        refine r_iret dX12_clear_49 rfl ?_
        exact ⟨_, rfl, kf (by omega) _ f⟩
    · refine r_if_eq (tgt := 48) dX12_clear_20 rfl ⟨by decide, by decide⟩ (fun c_20 => ?_) (fun c_20 => absurd c_20 (by decide))
      refine r_iconst dX12_clear_48 ?_
      refine r_iret dX12_clear_49 rfl ?_
      exact ⟨_, rfl, kf (by omega) _ f⟩
  · refine r_if_eq (tgt := 48) dX12_clear_10 rfl ⟨by decide, by decide⟩ (fun c_10 => ?_) (fun c_10 => absurd c_10 (by decide))
    refine r_iconst dX12_clear_48 ?_
    refine r_iret dX12_clear_49 rfl ?_
    exact ⟨_, rfl, kf (by omega) _ f⟩
theorem clP_congr {W v d0 : Int} {x y ox oy x2 y2 ox2 oy2 : Nat → Int} {i k : Nat} (h1 : x i = x2 i) (h2 : y i = y2 i) (h3 : ox k = ox2 k) (h4 : oy k = oy2 k) : clP W v d0 x y ox oy i k ↔ clP W v d0 x2 y2 ox2 oy2 i k := by
  unfold clP
  rw [h1, h2, h3, h4]
theorem REL.n2 {h : Hp} (r : REL h) : 0 ≤ h 23 0 ∧ h 23 0 ≤ 150 ∧ h 49 30 = h 23 0 := ⟨r.2.2.2.2.1.2.1, r.2.2.2.2.1.2.2.1, r.2.2.2.2.1.1⟩
theorem REL.mxy2 {h : Hp} (r : REL h) : MXY (h 49 3) (h 49 4) (h 60) (h 61) 151 (h 49 30) := by
  have q := r.1
  rw [q.2.2.1, q.2.2.2.1, r.2.2.2.2.1.1]
  exact r.2.2.2.2.1.2.mxy
theorem REL.cl {h : Hp} (r : REL h) {v d0 i k0 : Int} (hi : 0 ≤ i ∧ i ≤ h 16 0) (hk : 0 ≤ k0 ∧ k0 ≤ h 23 0) : clP (h 1 0) v d0 (h 17) (h 18) (h 24) (h 25) i.toNat k0.toNat ↔ clP (h 49 3) v d0 (h 60) (h 61) (fun p => h 60 (151 + p)) (fun p => h 61 (151 + p)) i.toNat k0.toNat := by
  have a := r.2.2.2.1.2.2.2 i.toNat (by omega)
  have b := r.2.2.2.2.1.2.2.2 k0.toNat (by omega)
  rw [Nat.zero_add] at a
  rw [r.1.2.2.1]
  exact clP_congr a.2.2.2.2.2.2.2.1.symm a.2.2.2.2.2.2.2.2.1.symm b.2.2.2.2.2.2.2.1.symm b.2.2.2.2.2.2.2.2.1.symm
theorem pr_clear {d : Nat} (hd : 20 ≤ d) {v d0 i k0 : Int} (hv : R32 v) (hd0 : R32 d0) (hi : R32 i) (hk : R32 k0) : PR d mX11_clear mX12_clear [.inl v, .inl d0, .inl i, .inl k0] := by
  intro h r
  have n := r.n
  have n2 := r.n2
  have w := r.1
  have D : (((1 ≤ v ∧ v ≤ h 1 0) ∧ (0 ≤ d0 ∧ d0 ≤ 50)) ∧ (0 ≤ i ∧ i ≤ h 16 0) ∧ (0 ≤ k0 ∧ k0 ≤ h 23 0)) ↔ (((1 ≤ v ∧ v ≤ h 49 3) ∧ (0 ≤ d0 ∧ d0 ≤ 50)) ∧ (0 ≤ i ∧ i ≤ h 49 29) ∧ (0 ≤ k0 ∧ k0 ≤ h 49 30)) := by omega
  refine sp_X11_clear (by omega) w.1 hv hd0 hi hk (by omega) (by omega) r.2.2.2.1.2.xy r.2.2.2.2.1.2.xy (fun C E => ?_) (fun C E => ?_) (fun C => ?_)
  · exact sp_X12_clear (by omega) w.2.1 hv hd0 hi hk (by omega) (by omega) r.mxy r.mxy2 (fun _ _ g f => ⟨rfl, f.rel r⟩) (fun _ F => absurd ((r.cl (by omega) (by omega)).mp E) F) (fun F => absurd (D.mp C) F)
  · exact sp_X12_clear (by omega) w.2.1 hv hd0 hi hk (by omega) (by omega) r.mxy r.mxy2 (fun _ F => absurd ((r.cl (by omega) (by omega)).mpr F) E) (fun _ _ g f => ⟨rfl, f.rel r⟩) (fun F => absurd (D.mp C) F)
  · exact sp_X12_clear (by omega) w.2.1 hv hd0 hi hk (by omega) (by omega) r.mxy r.mxy2 (fun F => absurd (D.mpr F) C) (fun F => absurd (D.mpr F) C) (fun _ g f => ⟨rfl, f.rel r⟩)
