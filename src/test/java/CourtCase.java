/** What the tests that are worked out by hand have in common: ways to play, and looks at what is due. */
abstract class CourtCase {
    protected static final Class<?> ARGUMENT = IllegalArgumentException.class;
    protected static final Class<?> STATE = IllegalStateException.class;
    protected static final Class<?> INDEX = IndexOutOfBoundsException.class;
    // More than any game takes, so that a wrong court can not hold a test for ever.
    private static final int MOST_POINTS = 60;

    // ---- ways to play

    /** Three numbers serve, and four each strike; every stroke has to come. */
    protected static FivesCourt played(int... numbers) {
        FivesCourt court = new FivesCourt();
        playOn(court, numbers);
        return court;
    }

    protected static void playOn(FivesCourt court, int... numbers) {
        int server = court.count(0);
        Check.due("serve of a run", court.serve(numbers[0], numbers[1], numbers[2]), server);
        for (int i = 3; i < numbers.length; i += 4) {
            Check.due("strike of a run",
                    court.strike(numbers[i], numbers[i + 1], numbers[i + 2], numbers[i + 3]), 0);
        }
    }

    /** Of the serves (0, -2, 6) ends dead, (0, -2, 0) down and (0, 2, 9) out: by leave() who serves wins or loses. */
    protected static void winServing(FivesCourt court) {
        int server = court.count(0);
        Check.due("a serve", court.serve(0, -2, 6), server);
        Check.due("leave() of a dead serve", court.leave(), 2 + server);
    }

    protected static void loseServing(FivesCourt court) {
        int server = court.count(0);
        Check.due("a serve", court.serve(0, -2, 0), server);
        Check.due("leave() of a serve that is down", court.leave(), 3 - server);
    }

    protected static void serveFor(FivesCourt court, int side) {
        if (court.count(0) != side) {
            loseServing(court);
        }
    }

    /** Brings both to so many points, the side 1 serving at the end (0 for none at all). */
    protected static void bringBothTo(FivesCourt court, int points) {
        for (int i = 0; i < MOST_POINTS && (court.told(0, 0) < points || court.told(1, 0) < points); i++) {
            int side = court.told(0, 0) <= court.told(1, 0) ? 0 : 1;
            serveFor(court, side);
            winServing(court);
        }
    }

    /** Brings the sides to their points in a game with none so far, by turns as long as both have to win some. */
    protected static FivesCourt broughtTo(int first, int second) {
        FivesCourt court = new FivesCourt();
        bringBothTo(court, Math.min(first, second));
        for (int i = 0; i < MOST_POINTS && (court.told(0, 0) < first || court.told(1, 0) < second); i++) {
            serveFor(court, court.told(0, 0) < first ? 0 : 1);
            winServing(court);
        }
        dueTold("brought to points", court, 0, first);
        dueTold("brought to points", court, 1, second);
        return court;
    }

    protected static void winGame(FivesCourt court, int side) {
        int games = court.told(side, 1);
        serveFor(court, side);
        for (int i = 0; i < MOST_POINTS && court.told(side, 1) == games; i++) {
            winServing(court);
        }
    }

    protected static FivesCourt afterMatchOf(int side) {
        FivesCourt court = new FivesCourt();
        winGame(court, side);
        winGame(court, side);
        winGame(court, side);
        return court;
    }

    /**
     * Between the front wall and the buttress, on the column 1, a stroke (0, -2, 9) from the row 1 is
     * back there in 10 moments, and 45 higher: struck at 15, 60, 105 and so on, the last at 15 + 45 * climbs.
     */
    protected static FivesCourt climbed(int climbs, int across, int along, int rise) {
        FivesCourt court = played(-1, -2, 5);
        for (int i = 0; i < climbs; i++) {
            Check.due("a climbing stroke", court.strike(i == 0 ? 8 : 10, 0, -2, 9), 0);
        }
        Check.due("the stroke of a high ball", court.strike(climbs == 0 ? 8 : 10, across, along, rise), 0);
        dueBall("a high ball", court, 1, 1, 15 + 45 * climbs, across, along, rise);
        return court;
    }

    // ---- what is due

    protected static void dueBall(String when, FivesCourt court, int... parts) {
        for (int what = 0; what < parts.length; what++) {
            Check.due(when + ": ball(" + what + ")", court.ball(what), parts[what]);
        }
    }

    protected static void dueFlight(FivesCourt court, int moments, int... parts) {
        for (int what = 0; what < parts.length; what++) {
            Check.due("flight(" + moments + ", " + what + ")", court.flight(moments, what), parts[what]);
        }
    }

    protected static void dueNoFlight(FivesCourt court, int moments) {
        for (int what = 0; what < 9; what++) {
            Check.due("flight(" + moments + ", " + what + ")", court.flight(moments, what), -99);
        }
    }

    protected static void dueEnd(String when, FivesCourt court, int... parts) {
        for (int what = 0; what < parts.length; what++) {
            Check.due(when + ": end(" + what + ")", court.end(what), parts[what]);
        }
    }

    protected static void dueCounts(String when, FivesCourt court, int... counts) {
        for (int what = 0; what < counts.length; what++) {
            Check.due(when + ": count(" + what + ")", court.count(what), counts[what]);
        }
    }

    protected static void dueTold(String when, FivesCourt court, int side, int... tolds) {
        for (int what = 0; what < tolds.length; what++) {
            Check.due(when + ": told(" + side + ", " + what + ")", court.told(side, what), tolds[what]);
        }
    }
}
