/** The calls of README.md's example, in their order, with the answers that stand there. */
public final class ReadmeTest extends Checks {
    private static void aPlace(CordPens pens) {
        due("wall", pens.wall(60, 100, 2), true);
        due("steps", pens.steps(3000, 4000, 0), 100);
        due("place", pens.place(100, 100, 1), 4000);
        due("grain", pens.grain(3000, 4000), 74);
    }

    private static void aDrawing(CordPens pens) {
        due("feed", pens.feed(0x6C696E65, 0x20302038, 0x30203630, 0x2038303B, 0x20202020), 20);
        due("draw", pens.draw(16), 2);
        same("its moves", moves(pens), "0,80 60,80-");
        due("where move 1 goes", pens.look(1, 0), 60);
        due("its ticks", pens.look(1, 3), 40);
        due("sag", pens.sag(1), 485);
        due("parts", pens.parts(1, 60), 7);
    }

    private static void missedSteps(CordPens pens) {
        due("miss", pens.miss(1, 0, 2), true);
        due("real", pens.real(1, 0), 6167);
        due("seen", pens.seen(1, 6167, 7998), 1);
        due("found", pens.found(10, 1), 2);
    }

    private static void aRun(CordPens pens) {
        pens.begin();
        due("tick", pens.tick(50), 50);
        due("the move that goes on", pens.run(0), 1);
        due("where the pen truly is", pens.run(2), 435);
    }

    private static void twoMachines(CordPens pens) {
        due("other", pens.other(), 2);
        due("together", pens.together(30, 10), 88);
        due("pairs", pens.joint(60, 60, 0), 1);
        due("gaps", pens.joint(60, 60, 1), 0);
    }

    private static void refused(CordPens pens) {
        due("feed", pens.feed(0x6C696E65, 0x20313B20, 0x20202020, 0x20202020, 0x20202020), 20);
        due("draw", pens.draw(7), CordPens.NONE);
        due("fault", pens.fault(0), 1);
        due("its place", pens.fault(1), 6);
        due("no such move", look(pens, 2, 0), NO_MOVE);
        due("no such what", look(pens, 1, 6), NO_WHAT);
    }

    public static void main(String[] args) {
        CordPens pens = new CordPens();
        about = "README.md";
        aPlace(pens);
        aDrawing(pens);
        missedSteps(pens);
        aRun(pens);
        twoMachines(pens);
        refused(pens);
        end("ReadmeTest: ");
    }
}
