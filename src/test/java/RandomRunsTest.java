import java.util.Random;

/**
 * Runs of up to 512 calls, drawn from a fixed seed, whose answers are those of the
 * model: some play whole matches, some long rallies, some all calls with any arguments.
 */
public final class RandomRunsTest {
    private static final int RUNS = 250;
    private static final int CALLS = 512;
    private static final int WORST = 99999;

    private interface IntCall {
        int answer();
    }

    private final Random random;
    private final FivesCourt court = new FivesCourt();
    private final CourtModel model = new CourtModel();
    private final int run;
    private int calls = 0;
    private int longFlights = 0;

    private RandomRunsTest(int run) {
        this.run = run;
        this.random = new Random(1801 + run);
    }

    public static void main(String[] args) {
        int[] met = new int[5];
        for (int run = 0; run < RUNS; run++) {
            RandomRunsTest test = new RandomRunsTest(run);
            test.play(met);
        }
        // The runs are worth little if they never come to what is rare.
        Check.due("some games were set", met[0] > 20 ? 1 : 0, 1);
        Check.due("some matches were won", met[1] > 20 ? 1 : 0, 1);
        Check.due("some rallies were long", met[2] > 20 ? 1 : 0, 1);
        Check.due("some lets came by strike()", met[3] > 20 ? 1 : 0, 1);
        Check.due("some flights were far longer than 60 moments", met[4] > 20 ? 1 : 0, 1);
        Check.finish("RandomRunsTest");
    }

    private void play(int[] met) {
        while (calls < CALLS - 12) {
            switch (run % 5) {
                case 0:
                    playTightly();
                    break;
                case 1:
                    playLongRallies();
                    break;
                case 2:
                    playAnything();
                    break;
                case 3:
                    playHighBalls();
                    break;
                default:
                    playTightly();
                    playLongRallies();
                    playAnything();
                    break;
            }
            met[0] += model.set ? 1 : 0;
            met[1] += model.overBy >= 0 ? 1 : 0;
            met[2] += model.rally.size() > 8 ? 1 : 0;
            met[3] += model.lets > 0 ? 1 : 0;
        }
        met[4] += longFlights;
    }

    // ---- the ways to play

    /** The side that has fewer points wins mostly, so that many games become tight. */
    private void playTightly() {
        if (model.overBy >= 0) {
            look();
            match(random.nextInt(2));
        }
        if (!model.rally.isEmpty()) {
            leave();
        }
        if (model.count(6) == 1 && random.nextInt(2) == 0) {
            set(random.nextInt(8) == 0 ? 4 : 3 + 2 * random.nextInt(2));
        }
        int behind = model.points[0] <= model.points[1] ? 0 : 1;
        boolean toWin = random.nextInt(12) == 0 || behind == model.server;
        if (toWin) {
            serve(random.nextInt(3) - 1, -2, 5 + random.nextInt(3));
        } else {
            serve(0, random.nextInt(3), random.nextInt(10));
        }
        leave();
        if (random.nextInt(9) == 0) {
            digest();
        }
    }

    private void playLongRallies() {
        if (model.overBy >= 0) {
            match(random.nextInt(2));
        }
        if (model.rally.isEmpty()) {
            serve(random.nextInt(5) - 2, -1 - random.nextInt(2), 5 + random.nextInt(5));
        }
        int moments = momentToStrike();
        int across = random.nextInt(5) - 2;
        int along = random.nextInt(5) - 2;
        int rise = random.nextInt(10);
        for (int i = 0; i < 30 && model.would(moments, across, along, rise) != 3; i++) {
            along = random.nextInt(5) - 2;
            rise = random.nextInt(10);
        }
        if (random.nextInt(3) == 0) {
            look();
        }
        strike(moments, across, along, rise);
    }

    /** Each stroke at the top of the flight ahead, so that they climb, and fall for long at last. */
    private void playHighBalls() {
        if (model.overBy >= 0) {
            match(random.nextInt(2));
        }
        if (model.rally.isEmpty()) {
            serve(random.nextInt(5) - 2, -2, 8 + random.nextInt(2));
        }
        int top = 8 + random.nextInt(4);
        for (int moments = 1; moments <= 60; moments++) {
            if (model.would(moments, 0, 0, 0) >= 0 && model.flight(moments, 2) > Math.max(0, model.flight(top, 2))) {
                top = moments;
            }
        }
        if (random.nextInt(40) != 0) {
            int best = top;
            if (random.nextInt(4) == 0) {
                same("advise(" + best + ")", () -> court.advise(best), () -> model.advise(best));
            }
            strike(top, random.nextInt(5) - 2, -2, 9);
            return;
        }
        strike(top, 0, 0, random.nextInt(10));
        longFlights += model.end(1) > 80 ? 1 : 0;
        look();
        leave();
    }

    /** Mostly a moment behind the front touch and ahead of the end. */
    private int momentToStrike() {
        int moments = 1 + random.nextInt(60);
        for (int i = 0; i < 40; i++) {
            if (model.would(moments, 0, 0, 0) >= 0) {
                return moments;
            }
            moments = 1 + random.nextInt(i < 20 ? 60 : 12);
        }
        return moments;
    }

    private void playAnything() {
        int kind = random.nextInt(12);
        if (kind == 0) {
            match(any(-1, 2));
        } else if (kind == 1) {
            set(any(2, 6));
        } else if (kind == 2) {
            let();
        } else if (kind <= 4) {
            leave();
        } else if (kind <= 7) {
            serve(any(-3, 3), any(-3, 3), any(-1, 10));
        } else if (kind <= 9) {
            strike(any(0, 61), any(-3, 3), any(-3, 3), any(-1, 10));
        } else {
            look();
        }
    }

    private int any(int from, int to) {
        if (random.nextInt(40) == 0) {
            return random.nextBoolean() ? Integer.MAX_VALUE : Integer.MIN_VALUE;
        }
        return from + random.nextInt(to - from + 1);
    }

    private void look() {
        int moments = any(-1, random.nextBoolean() ? 61 : 25);
        int what = any(-1, 9);
        int side = any(-1, 2);
        int across = any(-2, 2);
        int along = any(-2, 2);
        int rise = any(0, 9);
        same("flight(" + moments + ", " + what + ")",
                () -> court.flight(moments, what), () -> model.flight(moments, what));
        same("end(" + what + ")", () -> court.end(what), () -> model.end(what));
        same("count(" + what + ")", () -> court.count(what), () -> model.count(what));
        same("ball(" + what + ")", () -> court.ball(what), () -> model.ball(what));
        same("told(" + side + ", " + what + ")", () -> court.told(side, what), () -> model.told(side, what));
        same("would(" + moments + ", " + across + ", " + along + ", " + rise + ")",
                () -> court.would(moments, across, along, rise), () -> model.would(moments, across, along, rise));
        same("advise(" + moments + ")", () -> court.advise(moments), () -> model.advise(moments));
        calls++;
        Check.dueDouble(name("mean()"), court.mean(), model.mean());
        digest();
    }

    // ---- calls of both

    private void serve(int across, int along, int rise) {
        same("serve(" + across + ", " + along + ", " + rise + ")",
                () -> court.serve(across, along, rise), () -> model.serve(across, along, rise));
    }

    private void strike(int moments, int across, int along, int rise) {
        same("strike(" + moments + ", " + across + ", " + along + ", " + rise + ")",
                () -> court.strike(moments, across, along, rise), () -> model.strike(moments, across, along, rise));
    }

    private void leave() {
        same("leave()", court::leave, model::leave);
    }

    private void let() {
        same("let()", court::let, model::let);
    }

    private void set(int more) {
        same("set(" + more + ")", () -> court.set(more), () -> model.set(more));
    }

    private void match(int side) {
        same("match(" + side + ")", () -> court.match(side), () -> model.match(side));
    }

    private void digest() {
        calls++;
        Check.due(name("digest()"), court.digest(), model.digest());
    }

    private void same(String call, IntCall got, IntCall due) {
        calls++;
        Check.due(name(call), answer(got), answer(due));
    }

    private String name(String call) {
        return "run " + run + ", call " + calls + ": " + call;
    }

    /** An exception is told as a number that no call answers. */
    private static int answer(IntCall call) {
        try {
            return call.answer();
        } catch (RuntimeException e) {
            if (e.getClass() == IllegalArgumentException.class) {
                return WORST + 1;
            }
            if (e.getClass() == IllegalStateException.class) {
                return WORST + 2;
            }
            return e.getClass() == IndexOutOfBoundsException.class ? WORST + 3 : WORST + 4;
        }
    }
}
