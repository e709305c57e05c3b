/**
 * What the document says of one call by another one: would() and advise() by what comes of the
 * stroke when it is played, strike() and leave() by flight() and end(), in every moment of some
 * flights. Every court here has fewer than 512 calls.
 */
public final class AgreementTest extends CourtCase {
    // By walls, the ledge, the buttress and the open end, low and high, ended in each of the ways.
    private static final int[][] RUNS = {
        {0, -2, 6}, {-2, -2, 6}, {2, -2, 7}, {-1, -1, 9}, {0, -2, 0}, {-2, 2, 9}, {1, -2, 3},
        {0, -2, 9, 12, 0, -1, 0}, {0, -2, 6, 12, 0, -2, 1}, {-1, -2, 6, 8, 0, -2, 5},
        {0, -2, 5, 8, -1, -2, 2}, {1, -2, 6, 14, -2, -1, 9}, {0, -2, 6, 14, -2, 0, 9},
        {0, -2, 9, 8, 0, -2, 4}, {-1, -2, 5, 8, 0, -2, 9, 10, 0, -2, 9, 10, 1, -2, 9},
    };
    private static final int LATEST = 60;

    private AgreementTest() {
    }

    public static void main(String[] args) {
        for (int[] run : RUNS) {
            flightEndsByItsEnd(run);
            leaveByTheEnd(run);
            for (int moments = 1; moments <= LATEST; moments++) {
                strikeByTheFlight(run, moments);
                wouldByPlaying(run, moments);
                adviceByPlaying(run, moments);
            }
        }
        serveByPlaying();
        Check.finish("AgreementTest");
    }

    private static int acrossOf(int code) {
        return code / 50 - 2;
    }

    private static int alongOf(int code) {
        return code / 10 % 5 - 2;
    }

    private static int riseOf(int code) {
        return code % 10;
    }

    /** "-99 if its flight has ended by then": flight() has the ball ahead of the moment end(1), and none from it on. */
    private static void flightEndsByItsEnd(int[] run) {
        FivesCourt court = played(run);
        int length = court.end(1);
        for (int moments = 0; moments <= LATEST; moments++) {
            boolean flies = court.flight(moments, 0) != -99;
            Check.due("a ball behind " + moments + " of " + length, flies ? 1 : 0, moments < length ? 1 : 0);
        }
        if (length <= LATEST) {
            int fronts = court.end(2) - court.flight(length - 1, 6);
            int bounces = court.end(3) - court.flight(length - 1, 7);
            Check.due("front touches of the last moment", fronts == 0 || fronts == 1 ? 1 : 0, 1);
            Check.due("bounces of the last moment", bounces == 0 || bounces == 1 ? 1 : 0, 1);
        }
    }

    /** Dead, the side whose turn it is loses it; down or out, who struck it does. */
    private static void leaveByTheEnd(int[] run) {
        FivesCourt court = played(run);
        Check.due("leave()", court.leave(), winnerByTheEnd(played(run)));
    }

    private static int winnerByTheEnd(FivesCourt court) {
        int turn = court.count(1);
        return 2 + (court.end(0) == 3 ? 1 - turn : turn);
    }

    /** "the ball is struck from where it is then, with the height that it has (1 at the least)". */
    private static void strikeByTheFlight(int[] run, int moments) {
        FivesCourt court = played(run);
        int column = court.flight(moments, 0);
        int row = court.flight(moments, 1);
        int height = court.flight(moments, 2);
        int fronts = court.flight(moments, 6);
        int due = column == -99 ? winnerByTheEnd(court) : fronts == 0 ? 1 : 0;
        Check.due("strike(" + moments + ", ..)", court.strike(moments, 2, -1, 7), due);
        if (due == 0) {
            dueBall("struck behind " + moments, court, column, row, Math.max(height, 1), 2, -1, 7);
        } else {
            dueBall("over behind " + moments, court, 0, 0, 0, 0, 0, 0);
        }
    }

    /** "Returns how the flight of this stroke would end, 1 to 3; -1 if it would not come". */
    private static void wouldByPlaying(int[] run, int moments) {
        FivesCourt court = played(run);
        for (int code = 0; code < 250; code++) {
            int across = acrossOf(code);
            int along = alongOf(code);
            int rise = riseOf(code);
            FivesCourt struck = struckIn(run, moments, code);
            Check.due("would(" + moments + ", " + across + ", " + along + ", " + rise + ")",
                    court.would(moments, across, along, rise), struck == null ? -1 : struck.end(0));
        }
    }

    /** "of those that would end dead the one whose flight is the shortest .. of several the smallest; -1 without one". */
    private static void adviceByPlaying(int[] run, int moments) {
        int best = -1;
        int shortest = Integer.MAX_VALUE;
        for (int code = 0; code < 250; code++) {
            FivesCourt struck = struckIn(run, moments, code);
            if (struck != null && struck.end(0) == 3 && struck.end(1) < shortest) {
                shortest = struck.end(1);
                best = code;
            }
        }
        Check.due("advise(" + moments + ")", played(run).advise(moments), best);
    }

    /** A court in which the stroke has come, null if it does not. */
    private static FivesCourt struckIn(int[] run, int moments, int code) {
        FivesCourt court = played(run);
        return court.strike(moments, acrossOf(code), alongOf(code), riseOf(code)) == 0 ? court : null;
    }

    /** The same of serves. */
    private static void serveByPlaying() {
        FivesCourt court = new FivesCourt();
        int best = -1;
        int shortest = Integer.MAX_VALUE;
        for (int code = 0; code < 250; code++) {
            FivesCourt served = played(acrossOf(code), alongOf(code), riseOf(code));
            Check.due("would(0, ..) of " + code,
                    court.would(0, acrossOf(code), alongOf(code), riseOf(code)), served.end(0));
            if (served.end(0) == 3 && served.end(1) < shortest) {
                shortest = served.end(1);
                best = code;
            }
        }
        Check.due("advise(0)", court.advise(0), best);
    }
}
