/** Calls that throw: the exception is the one that is due, and the call changes nothing. */
final class Refusal {
    static final int LOWEST = Integer.MIN_VALUE;
    static final int HIGHEST = Integer.MAX_VALUE;

    /** Numbers that would be small ones if only their last bits counted. */
    private static final int[] FAR_OFF = {
        LOWEST, LOWEST + 1, -65536, -256, -64, -2, -1, 64, 256, 65536, HIGHEST - 1, HIGHEST};

    interface Call {
        void on(CellPlanner planner);
    }

    interface CallWith {
        void on(CellPlanner planner, int number);
    }

    private Refusal() {
    }

    static void argument(Scene[] scenes, Call call) {
        for (Scene scene : scenes) {
            refused(scene, IllegalArgumentException.class, "", call);
        }
    }

    static void state(Call call) {
        refused(Scene.FULL, IllegalStateException.class, "", call);
    }

    /** Refused as an argument: what is just beside the range, and what is far off. */
    static void outOfRange(Scene[] scenes, int least, int most, CallWith call) {
        for (Scene scene : scenes) {
            refusedWith(scene, IllegalArgumentException.class, least - 1, call);
            refusedWith(scene, IllegalArgumentException.class, most + 1, call);
            for (int value : FAR_OFF) {
                if (value < least || value > most) {
                    refusedWith(scene, IllegalArgumentException.class, value, call);
                }
            }
        }
    }

    /** Refused as the number of a cell: those that no cell has, in every scene. */
    static void noCell(CallWith call) {
        for (Scene scene : Scene.values()) {
            noNumber(scene, scene.cells(), call);
        }
    }

    /** Refused as the number of a walker: those that no walker has, in every scene. */
    static void noWalker(CallWith call) {
        for (Scene scene : Scene.values()) {
            noNumber(scene, scene.walkers(), call);
        }
    }

    /** Refused as the number of a cell, where a walker 0 is there. */
    static void noCellBesideWalkers(CallWith call) {
        for (Scene scene : Scene.SETTLED) {
            noNumber(scene, scene.cells(), call);
        }
    }

    /** Refused as the number of a walker, where a cell 0 is there. */
    static void noWalkerBesideCells(CallWith call) {
        for (Scene scene : Scene.SETTLED) {
            noNumber(scene, scene.walkers(), call);
        }
    }

    private static void noNumber(Scene scene, int count, CallWith call) {
        for (int number = count; number <= 8; number++) {
            refusedWith(scene, IndexOutOfBoundsException.class, number, call);
        }
        for (int number : FAR_OFF) {
            refusedWith(scene, IndexOutOfBoundsException.class, number, call);
        }
    }

    private static void refusedWith(Scene scene, Class<?> due, int number, CallWith call) {
        refused(scene, due, " with " + number, planner -> call.on(planner, number));
    }

    private static void refused(Scene scene, Class<?> due, String with, Call call) {
        CellPlanner planner = scene.make();
        Check.thrown(scene + with, due, () -> call.on(planner));
        Check.equal(scene + with + ", and then", scene.future(scene.make()), scene.future(planner));
    }
}
