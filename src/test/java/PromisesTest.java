/**
 * Each promise by runs that were worked out by hand from the document: ordinary
 * calls, the edges that it names, and wrong arguments.
 */
public final class PromisesTest extends CourtCase {
    private static final int[] NO_WAYS = {-3, 3, Integer.MIN_VALUE, Integer.MAX_VALUE};
    private static final int[] NO_RISES = {-1, 10, Integer.MIN_VALUE, Integer.MAX_VALUE};

    private PromisesTest() {
    }

    public static void main(String[] args) {
        newObject();
        serve();
        serveWrongly();
        strike();
        strikeEndedFlights();
        strikeWrongly();
        strikeLowBall();
        leave();
        let();
        pointsAndGames();
        matchIsWon();
        tightAtTen();
        tightAtEleven();
        tightUnset();
        setToFive();
        setWrongly();
        anotherMatch();
        ball();
        told();
        count();
        flight();
        flightWrongly();
        flightByTheButtress();
        flightBetweenButtressAndFront();
        flightBehindTheButtress();
        end();
        endOfEachKind();
        endByTheLedge();
        would();
        wouldWrongly();
        advise();
        adviseWithoutOne();
        mean();
        digest();
        Check.finish("PromisesTest");
    }

    // ---- promise 1

    private static void newObject() {
        FivesCourt court = new FivesCourt();
        dueCounts("new", court, 0, -1, 0, 0, 0, 12, 0, -1, 0);
        dueTold("new", court, 0, 0, 0, 0, 0);
        dueTold("new", court, 1, 0, 0, 0, 0);
        dueBall("new", court, 0, 0, 0, 0, 0, 0);
        dueEnd("new", court, 0, 0, 0, 0, 0);
        Check.dueDouble("new: mean()", court.mean(), 0.0);
        FivesCourt other = new FivesCourt();
        other.serve(0, -2, 6);
        dueCounts("new beside another one", court, 0, -1, 0, 0, 0, 12, 0, -1, 0);
    }

    // ---- promise 2

    private static void serve() {
        FivesCourt court = new FivesCourt();
        Check.due("serve(-2, 2, 9)", court.serve(-2, 2, 9), 0);
        dueBall("served", court, 6, 14, 3, -2, 2, 9);
        dueCounts("served", court, 0, 1, 1, 0, 0, 12, 0, -1, 0);
        Check.dueThrow("serve in a rally", court, STATE, () -> court.serve(0, 0, 0));
        court.leave();
        Check.due("serve(2, -2, 0) of the side 1", court.serve(2, -2, 0), 1);
        dueBall("served by 1", court, 6, 14, 3, 2, -2, 0);
        dueCounts("served by 1", court, 1, 0, 1, 1, 0, 12, 0, -1, 0);
    }

    private static void serveWrongly() {
        FivesCourt court = new FivesCourt();
        for (int turn = 0; turn < 2; turn++) {
            for (int way : NO_WAYS) {
                Check.dueThrow("serve(" + way + ", 0, 0)", court, ARGUMENT, () -> court.serve(way, 0, 0));
                Check.dueThrow("serve(0, " + way + ", 0)", court, ARGUMENT, () -> court.serve(0, way, 0));
            }
            for (int rise : NO_RISES) {
                Check.dueThrow("serve(0, 0, " + rise + ")", court, ARGUMENT, () -> court.serve(0, 0, rise));
            }
            if (turn == 0) {
                court.serve(0, -2, 6);
            }
        }
    }

    // ---- promise 3

    private static void strike() {
        FivesCourt court = new FivesCourt();
        court.serve(0, -2, 6);
        Check.due("strike(8, 1, -1, 5)", court.strike(8, 1, -1, 5), 0);
        dueBall("struck", court, 6, 1, 23, 1, -1, 5);
        dueCounts("struck", court, 0, 0, 2, 0, 0, 12, 0, -1, 0);
        // From the row 1 by way of the row 0 the front wall is touched in the second moment.
        Check.due("strike(2, 0, 0, 0)", court.strike(2, 0, 0, 0), 0);
        dueBall("struck back", court, 8, 0, 32, 0, 0, 0);
        dueCounts("struck back", court, 0, 1, 3, 0, 0, 12, 0, -1, 0);
        Check.due("strike(1, ..) of a ball that stays", court.strike(1, 0, 0, 0), 1);
        dueCounts("let", court, 0, -1, 0, 0, 1, 12, 0, -1, 0);
        dueTold("let", court, 0, 0, 0, 0, 2);
        dueTold("let", court, 1, 0, 0, 0, 1);
        Check.dueThrow("strike behind a let", court, STATE, () -> court.strike(1, 0, 0, 0));

        court.serve(0, -2, 6);
        Check.due("strike(7, ..) ahead of the front touch", court.strike(7, 0, 0, 0), 1);
        Check.due("lets", court.count(4), 2);
        Check.due("who serves behind a let", court.count(0), 0);
        Check.dueDouble("mean() behind lets", court.mean(), 0.0);
    }

    private static void strikeEndedFlights() {
        FivesCourt court = new FivesCourt();
        court.serve(0, -2, 6);
        Check.due("strike(22, ..) ahead of the end", court.strike(22, 0, -2, 9), 0);
        dueBall("struck at the end", court, 6, 29, 4, 0, -2, 9);
        court.match(0);
        court.serve(0, -2, 6);
        Check.due("strike(23, ..) at a dead ball", court.strike(23, 0, -2, 9), 2);
        dueTold("dead", court, 0, 1, 0, 1, 1);
        dueTold("dead", court, 1, 0, 0, 0, 0);
        court.serve(0, -2, 0);
        Check.due("strike(2, ..) ahead of a down", court.strike(2, 0, -2, 9), 1);
        court.serve(0, -2, 0);
        Check.due("strike(3, ..) at a ball that is down", court.strike(3, 0, -2, 9), 3);
        dueTold("down", court, 0, 1, 0, 1, 3);
        dueTold("down", court, 1, 0, 0, 1, 0);
        court.serve(0, 2, 9);
        Check.due("strike(8, ..) at a ball that is out", court.strike(8, 0, -2, 9), 2);
        dueCounts("out", court, 0, -1, 0, 3, 1, 12, 0, -1, 0);
        court.serve(0, -2, 6);
        Check.due("strike(60, ..) far behind", court.strike(60, 0, 0, 0), 2);

        FivesCourt third = new FivesCourt();
        third.serve(0, -2, 6);
        third.strike(10, 0, 2, 9);
        Check.due("strike(60, ..) at a ball that the side 1 struck out", third.strike(60, 0, 0, 0), 2);
        Check.dueDouble("mean() behind it", third.mean(), 2.0);
    }

    private static void strikeWrongly() {
        FivesCourt court = new FivesCourt();
        Check.dueThrow("strike without a rally", court, STATE, () -> court.strike(1, 0, 0, 0));
        for (int turn = 0; turn < 2; turn++) {
            for (int moments : new int[] {0, 61, -1, Integer.MIN_VALUE, Integer.MAX_VALUE}) {
                Check.dueThrow("strike(" + moments + ", ..)", court, ARGUMENT, () -> court.strike(moments, 0, 0, 0));
            }
            for (int way : NO_WAYS) {
                Check.dueThrow("strike across " + way, court, ARGUMENT, () -> court.strike(8, way, 0, 0));
                Check.dueThrow("strike along " + way, court, ARGUMENT, () -> court.strike(8, 0, way, 0));
            }
            for (int rise : NO_RISES) {
                Check.dueThrow("strike rising " + rise, court, ARGUMENT, () -> court.strike(8, 0, 0, rise));
            }
            if (turn == 0) {
                court.serve(0, -2, 6);
            }
        }
    }

    /** In the moment of its bounce a ball is at the height 0, and struck from 1. */
    private static void strikeLowBall() {
        FivesCourt court = new FivesCourt();
        court.serve(0, -2, 6);
        dueFlight(court, 14, 6, 13, 0, 0, 2, 4, 1, 1, 0);
        Check.due("strike(14, ..)", court.strike(14, 0, -2, 9), 0);
        dueBall("struck low", court, 6, 13, 1, 0, -2, 9);
    }

    // ---- promise 4

    private static void leave() {
        FivesCourt court = new FivesCourt();
        Check.dueThrow("leave() without a rally", court, STATE, court::leave);
        court.serve(0, -2, 6);
        Check.due("leave() of a dead serve", court.leave(), 2);
        dueCounts("left", court, 0, -1, 0, 1, 0, 12, 0, -1, 0);
        dueTold("left", court, 0, 1, 0, 1, 1);
        Check.dueThrow("leave() twice", court, STATE, court::leave);
        court.serve(0, 2, 9);
        Check.due("leave() of a serve that is out", court.leave(), 3);
        court.serve(0, -2, 0);
        Check.due("leave() of a serve of 1 that is down", court.leave(), 2);
        court.serve(0, -2, 6);
        court.strike(10, -2, -2, 4);
        Check.due("leave() of a dead stroke of 1", court.leave(), 3);
        Check.due("who serves then", court.count(0), 1);
        court.serve(0, -2, 6);
        court.strike(8, 0, 0, 0);
        Check.due("leave() of a stroke of 0 that is down", court.leave(), 3);
        dueTold("left", court, 1, 1, 0, 3, 3);
    }

    // ---- promise 5

    private static void let() {
        FivesCourt court = new FivesCourt();
        Check.dueThrow("let() without a rally", court, STATE, court::let);
        court.serve(0, -2, 6);
        Check.due("let() behind the serve", court.let(), 1);
        dueCounts("let", court, 0, -1, 0, 0, 1, 12, 0, -1, 0);
        Check.dueThrow("let() twice", court, STATE, court::let);
        court.serve(0, -2, 6);
        court.strike(8, 1, -1, 5);
        court.strike(2, 0, 0, 0);
        Check.due("let() behind three strokes", court.let(), 3);
        dueCounts("let again", court, 0, -1, 0, 0, 2, 12, 0, -1, 0);
        dueTold("let again", court, 0, 0, 0, 0, 3);
        dueTold("let again", court, 1, 0, 0, 0, 1);
    }

    // ---- points, games and matches, promise 6

    private static void pointsAndGames() {
        FivesCourt court = new FivesCourt();
        loseServing(court);
        dueTold("won without serving", court, 1, 0, 0, 1, 0);
        Check.due("who serves then", court.count(0), 1);
        for (int point = 1; point <= 11; point++) {
            winServing(court);
            Check.due("points of 1", court.told(1, 0), point);
        }
        loseServing(court);
        winServing(court);
        serveFor(court, 1);
        winServing(court);
        dueTold("game", court, 0, 0, 0, 2, 3);
        dueTold("game", court, 1, 0, 1, 14, 13);
        dueCounts("game", court, 1, -1, 0, 16, 0, 12, 0, -1, 1);
    }

    private static void matchIsWon() {
        FivesCourt court = new FivesCourt();
        winGame(court, 1);
        winGame(court, 0);
        winGame(court, 0);
        Check.due("count(7) ahead of the third game", court.count(7), -1);
        winGame(court, 0);
        dueTold("match", court, 0, 0, 3, 37, 37);
        dueTold("match", court, 1, 0, 1, 13, 13);
        dueCounts("match", court, 0, -1, 0, 50, 0, 12, 0, 0, 4);
        Check.dueThrow("serve() behind the match", court, STATE, () -> court.serve(0, -2, 6));
        Check.dueThrow("serve(3, ..) behind the match", court, ARGUMENT, () -> court.serve(3, -2, 6));
        Check.dueThrow("set() behind the match", court, STATE, () -> court.set(3));
        Check.due("would() behind the match", court.would(0, 0, -2, 6), -1);
        Check.due("advise() behind the match", court.advise(0), -1);
        Check.due("match(1)", court.match(1), 4);
        dueCounts("match again", court, 1, -1, 0, 50, 0, 12, 0, -1, 4);
        Check.due("would() in another match", court.would(0, 0, -2, 6), 3);
        Check.due("serve() in another match", court.serve(0, -2, 6), 1);
        court.leave();
        winGame(court, 1);
        winGame(court, 1);
        winGame(court, 1);
        dueCounts("match of 1", court, 1, -1, 0, 86, 0, 12, 0, 1, 7);
        Check.due("match(0)", court.match(0), 3);
    }

    private static void tightAtTen() {
        FivesCourt court = new FivesCourt();
        bringBothTo(court, 9);
        Check.due("count(6) at 9 both", court.count(6), 0);
        Check.dueThrow("set(3) at 9 both", court, STATE, () -> court.set(3));
        serveFor(court, 0);
        winServing(court);
        Check.due("count(6) at 10 to 9", court.count(6), 0);
        Check.dueThrow("set(3) at 10 to 9", court, STATE, () -> court.set(3));
        bringBothTo(court, 10);
        Check.due("count(6) at 10 both", court.count(6), 1);
        court.serve(0, -2, 6);
        Check.due("count(6) in a rally", court.count(6), 0);
        Check.dueThrow("set(3) in a rally", court, STATE, () -> court.set(3));
        court.let();
        Check.due("set(3) at 10 both", court.set(3), 13);
        Check.due("count(5) set", court.count(5), 13);
        Check.due("count(6) set", court.count(6), 0);
        Check.dueThrow("set(3) twice", court, STATE, () -> court.set(3));
        bringBothTo(court, 11);
        Check.due("count(6) at 11 both, set at 10", court.count(6), 0);
        Check.dueThrow("set(5) at 11 both, set at 10", court, STATE, () -> court.set(5));
        winServing(court);
        dueTold("12 of 13", court, 1, 12, 0);
        winServing(court);
        dueTold("13 of 13", court, 1, 0, 1);
        Check.due("count(5) in the next game", court.count(5), 12);
        bringBothTo(court, 10);
        Check.due("count(6) in the next game", court.count(6), 1);
        Check.due("set(5) in the next game", court.set(5), 15);
    }

    private static void tightAtEleven() {
        FivesCourt court = new FivesCourt();
        bringBothTo(court, 10);
        serveFor(court, 0);
        winServing(court);
        Check.due("count(6) at 11 to 10", court.count(6), 0);
        Check.dueThrow("set(3) at 11 to 10", court, STATE, () -> court.set(3));
        bringBothTo(court, 11);
        Check.due("count(6) at 11 both", court.count(6), 1);
        Check.due("set(3) at 11 both", court.set(3), 14);
        winServing(court);
        winServing(court);
        dueTold("13 of 14", court, 1, 13, 0);
        loseServing(court);
        winServing(court);
        dueTold("12 of 14", court, 0, 12, 0);
        serveFor(court, 1);
        winServing(court);
        dueTold("14 of 14", court, 1, 0, 1);
        dueTold("14 of 14, the other one", court, 0, 0, 0);
    }

    private static void tightUnset() {
        FivesCourt court = new FivesCourt();
        bringBothTo(court, 11);
        winServing(court);
        dueTold("12 unset", court, 1, 0, 1);
        Check.due("count(8) unset", court.count(8), 1);
    }

    private static void setToFive() {
        FivesCourt court = new FivesCourt();
        bringBothTo(court, 11);
        Check.due("set(5) at 11 both", court.set(5), 16);
        for (int point = 12; point <= 15; point++) {
            winServing(court);
            Check.due("points of 1 of 16", court.told(1, 0), point);
        }
        winServing(court);
        dueTold("16 of 16", court, 1, 0, 1);
        bringBothTo(court, 10);
        court.set(5);
        court.match(0);
        Check.due("count(5) in another match", court.count(5), 12);
        bringBothTo(court, 10);
        Check.due("count(6) in another match", court.count(6), 1);
    }

    private static void setWrongly() {
        FivesCourt court = new FivesCourt();
        for (int more : new int[] {4, 2, 6, 0, -3, Integer.MIN_VALUE, Integer.MAX_VALUE}) {
            Check.dueThrow("set(" + more + ")", court, ARGUMENT, () -> court.set(more));
        }
        Check.dueThrow("set(3) at none both", court, STATE, () -> court.set(3));
        Check.dueThrow("set(5) at none both", court, STATE, () -> court.set(5));
        bringBothTo(court, 10);
        Check.dueThrow("set(4) at 10 both", court, ARGUMENT, () -> court.set(4));
        court.serve(0, -2, 6);
        Check.dueThrow("set(4) in a rally", court, ARGUMENT, () -> court.set(4));
    }

    // ---- promise 7

    private static void anotherMatch() {
        FivesCourt court = new FivesCourt();
        for (int side : new int[] {-1, 2, Integer.MIN_VALUE, Integer.MAX_VALUE}) {
            Check.dueThrow("match(" + side + ")", court, INDEX, () -> court.match(side));
        }
        winGame(court, 0);
        winGame(court, 1);
        winServing(court);
        court.serve(0, -2, 6);
        court.let();
        court.serve(0, -2, 6);
        Check.dueThrow("match(2) in a rally", court, INDEX, () -> court.match(2));
        Check.due("match(0)", court.match(0), 2);
        dueCounts("another match", court, 0, -1, 0, 26, 1, 12, 0, -1, 2);
        dueTold("another match", court, 0, 0, 0, 0, 0);
        dueTold("another match", court, 1, 0, 0, 0, 0);
        dueBall("another match", court, 0, 0, 0, 0, 0, 0);
        dueEnd("another match", court, 0, 0, 0, 0, 0);
        Check.dueThrow("leave() in another match", court, STATE, court::leave);
        Check.due("match(1) at once", court.match(1), 0);
        Check.due("serve() of another match", court.serve(0, -2, 6), 1);
    }

    // ---- promises 8 to 10

    private static void ball() {
        FivesCourt court = new FivesCourt();
        for (int what : new int[] {-1, 6, Integer.MIN_VALUE, Integer.MAX_VALUE}) {
            Check.dueThrow("ball(" + what + ")", court, INDEX, () -> court.ball(what));
        }
        court.serve(-1, -2, 6);
        dueBall("served", court, 6, 14, 3, -1, -2, 6);
        Check.dueThrow("ball(6) in a rally", court, INDEX, () -> court.ball(6));
        court.flight(8, 0);
        court.would(8, 2, 2, 9);
        court.advise(8);
        dueBall("looked ahead", court, 6, 14, 3, -1, -2, 6);
        court.strike(8, 0, 2, 5);
        dueBall("struck", court, 1, 1, 23, 0, 2, 5);
        court.leave();
        dueBall("left", court, 0, 0, 0, 0, 0, 0);
    }

    private static void told() {
        FivesCourt court = new FivesCourt();
        for (int bad : new int[] {-1, 4, Integer.MIN_VALUE, Integer.MAX_VALUE}) {
            Check.dueThrow("told(" + bad + ", 0)", court, INDEX, () -> court.told(bad, 0));
            Check.dueThrow("told(0, " + bad + ")", court, INDEX, () -> court.told(0, bad));
        }
        Check.dueThrow("told(2, 0)", court, INDEX, () -> court.told(2, 0));
        winGame(court, 1);
        winServing(court);
        winServing(court);
        loseServing(court);
        winServing(court);
        dueTold("played", court, 0, 1, 0, 2, 2);
        dueTold("played", court, 1, 2, 1, 15, 15);
        court.serve(0, -2, 6);
        court.strike(60, 0, 0, 0);
        dueTold("a stroke that did not come", court, 1, 2, 1, 15, 15);
        court.serve(0, -2, 6);
        court.strike(1, 0, 0, 0);
        dueTold("a stroke that was a let", court, 1, 2, 1, 15, 15);
        dueTold("serves", court, 0, 2, 0, 3, 4);
    }

    private static void count() {
        FivesCourt court = new FivesCourt();
        for (int what : new int[] {-1, 9, Integer.MIN_VALUE, Integer.MAX_VALUE}) {
            Check.dueThrow("count(" + what + ")", court, INDEX, () -> court.count(what));
        }
        loseServing(court);
        court.serve(0, -2, 6);
        dueCounts("served by 1", court, 1, 0, 1, 1, 0, 12, 0, -1, 0);
        court.strike(8, 1, -1, 5);
        dueCounts("struck by 0", court, 1, 1, 2, 1, 0, 12, 0, -1, 0);
        court.let();
        dueCounts("let", court, 1, -1, 0, 1, 1, 12, 0, -1, 0);
    }

    // ---- promise 11

    private static void flight() {
        FivesCourt court = new FivesCourt();
        for (int what = 0; what < 9; what++) {
            Check.due("flight(0, " + what + ") without a rally", court.flight(0, what), -99);
            Check.due("flight(60, " + what + ") without a rally", court.flight(60, what), -99);
        }
        court.serve(0, -2, 6);
        dueFlight(court, 0, 6, 14, 3, 0, -2, 6, 0, 0, 0);
        dueFlight(court, 1, 6, 12, 9, 0, -2, 5, 0, 0, 0);
        dueFlight(court, 7, 6, 0, 24, 0, -2, -1, 0, 0, 0);
        dueFlight(court, 8, 6, 1, 23, 0, 2, -2, 1, 0, 0);
        dueFlight(court, 13, 6, 11, 3, 0, 2, -7, 1, 0, 0);
        dueFlight(court, 14, 6, 13, 0, 0, 2, 4, 1, 1, 0);
        dueFlight(court, 22, 6, 29, 4, 0, 2, -4, 1, 1, 0);
        dueFlight(court, 23, -99, -99, -99, -99, -99, -99, -99, -99, -99);
        dueFlight(court, 60, -99, -99, -99, -99, -99, -99, -99, -99, -99);
        court.strike(8, 0, -1, 0);
        dueFlight(court, 0, 6, 1, 23, 0, -1, 0, 0, 0, 0);
        dueFlight(court, 1, 6, 0, 23, 0, -1, -1, 0, 0, 0);
        dueFlight(court, 2, 6, 0, 22, 0, 1, -2, 1, 0, 0);
        court.leave();
        Check.due("flight(1, 0) behind the rally", court.flight(1, 0), -99);
    }

    private static void flightWrongly() {
        FivesCourt court = new FivesCourt();
        for (int turn = 0; turn < 2; turn++) {
            for (int moments : new int[] {-1, 61, Integer.MIN_VALUE, Integer.MAX_VALUE}) {
                Check.dueThrow("flight(" + moments + ", 0)", court, ARGUMENT, () -> court.flight(moments, 0));
                Check.dueThrow("flight(" + moments + ", 9)", court, ARGUMENT, () -> court.flight(moments, 9));
            }
            for (int what : new int[] {-1, 9, Integer.MIN_VALUE, Integer.MAX_VALUE}) {
                Check.dueThrow("flight(0, " + what + ")", court, INDEX, () -> court.flight(0, what));
                Check.dueThrow("flight(60, " + what + ")", court, INDEX, () -> court.flight(60, what));
            }
            if (turn == 0) {
                court.serve(0, -2, 6);
            }
        }
    }

    /** Walls and the buttress across, also in the midst of a moment. */
    private static void flightByTheButtress() {
        FivesCourt court = new FivesCourt();
        court.serve(-2, -1, 9);
        dueFlight(court, 2, 2, 12, 20, -2, -1, 7, 0, 0, 0);
        dueFlight(court, 3, 3, 11, 27, 2, -1, 6, 0, 0, 1);
        dueFlight(court, 4, 5, 10, 33, 2, -1, 5, 0, 0, 1);
        court.match(0);
        court.serve(-1, -1, 9);
        dueFlight(court, 4, 2, 10, 33, -1, -1, 5, 0, 0, 0);
        dueFlight(court, 5, 2, 9, 38, 1, -1, 4, 0, 0, 1);
        dueFlight(court, 6, 3, 8, 42, 1, -1, 3, 0, 0, 1);
        court.match(0);
        // Just ahead of the buttress the wall itself is reached.
        court.serve(-1, -2, 6);
        dueFlight(court, 6, 0, 2, 24, -1, -2, 0, 0, 0, 0);
        dueFlight(court, 7, 0, 0, 24, 1, -2, -1, 0, 0, 1);
        dueFlight(court, 8, 1, 1, 23, 1, 2, -2, 1, 0, 1);
        court.match(0);
        court.serve(2, -2, 6);
        dueFlight(court, 2, 10, 10, 14, 2, -2, 4, 0, 0, 0);
        dueFlight(court, 3, 11, 8, 18, -2, -2, 3, 0, 0, 1);
        dueFlight(court, 4, 9, 6, 21, -2, -2, 2, 0, 0, 1);
        court.match(0);
        // Behind the buttress the column 0 is reached, and from there ahead is the buttress.
        court.serve(-2, 0, 9);
        dueFlight(court, 3, 0, 14, 27, -2, 0, 6, 0, 0, 0);
        dueFlight(court, 4, 1, 14, 33, 2, 0, 5, 0, 0, 1);
    }

    /** Struck from the column 1, the row 1, the height 23, between the front wall and the buttress. */
    private static void flightBetweenButtressAndFront() {
        FivesCourt court = new FivesCourt();
        court.serve(-1, -2, 6);
        Check.due("strike(8, 0, 2, 5)", court.strike(8, 0, 2, 5), 0);
        dueFlight(court, 4, 1, 9, 37, 0, 2, 1, 0, 0, 0);
        dueFlight(court, 5, 1, 8, 38, 0, -2, 0, 0, 0, 1);
        dueFlight(court, 9, 1, 0, 32, 0, -2, -4, 0, 0, 1);
        dueFlight(court, 10, 1, 1, 28, 0, 2, -5, 1, 0, 1);
        dueFlight(court, 14, 1, 9, 2, 0, 2, -9, 1, 0, 1);
        dueFlight(court, 15, 1, 8, 0, 0, -2, 5, 1, 1, 2);
        dueFlight(court, 19, 1, 0, 14, 0, -2, 1, 1, 1, 2);
        dueFlight(court, 20, 1, 1, 15, 0, 2, 0, 2, 1, 2);
        dueFlight(court, 25, 1, 8, 5, 0, -2, -5, 2, 1, 3);
        Check.due("flight(26, 0)", court.flight(26, 0), -99);
        dueEnd("between buttress and front", court, 3, 26, 2, 2, 3);
    }

    /** Struck at the rows 13 and 15, so that the columns 0 and 1 are reached just behind the buttress. */
    private static void flightBehindTheButtress() {
        FivesCourt court = new FivesCourt();
        court.serve(0, -2, 6);
        court.strike(14, -2, 0, 9);
        dueFlight(court, 3, 0, 13, 25, -2, 0, 6, 0, 0, 0);
        dueFlight(court, 4, 1, 13, 31, 2, 0, 5, 0, 0, 1);
        court.match(0);
        court.serve(0, -2, 6);
        court.strike(15, -2, -1, 9);
        dueFlight(court, 2, 2, 13, 21, -2, -1, 7, 0, 0, 0);
        dueFlight(court, 3, 0, 13, 28, -2, 1, 6, 0, 0, 1);
        dueFlight(court, 4, 1, 14, 34, 2, 1, 5, 0, 0, 2);
    }

    // ---- promise 12

    private static void end() {
        FivesCourt court = new FivesCourt();
        for (int turn = 0; turn < 2; turn++) {
            for (int what : new int[] {-1, 5, Integer.MIN_VALUE, Integer.MAX_VALUE}) {
                Check.dueThrow("end(" + what + ")", court, INDEX, () -> court.end(what));
            }
            if (turn == 0) {
                court.serve(0, -2, 6);
            }
        }
        dueEnd("a dead serve", court, 3, 23, 1, 1, 0);
        court.flight(5, 0);
        court.would(8, 2, 2, 9);
        court.advise(8);
        dueEnd("looked ahead", court, 3, 23, 1, 1, 0);
        court.leave();
        dueEnd("left", court, 0, 0, 0, 0, 0);
    }

    private static void endOfEachKind() {
        FivesCourt court = new FivesCourt();
        // Down by a bounce ahead of the front wall.
        court.serve(0, -2, 0);
        dueEnd("a bounce ahead", court, 1, 3, 0, 1, 0);
        court.let();
        // Out without a bounce: in the eighth moment behind the row 29, at the row 28 ahead of it.
        court.serve(0, 2, 9);
        dueEnd("out", court, 2, 8, 0, 0, 0);
        court.let();
        // Down at a front touch at 3: 3, 6, 8, 9, 9, 8, 6, 3 behind the moments 0 to 7.
        court.serve(0, -2, 3);
        dueEnd("a front touch at 3", court, 1, 8, 1, 0, 0);
        court.let();
        // At 3 + 4 * 7 - 21 = 10 it is above the ledge, at 10 - 3 - 4 = 3 behind that: bounce in the moment 10.
        court.serve(0, -2, 4);
        Check.due("flight(7, 2)", court.flight(7, 2), 10);
        Check.due("flight(9, 2)", court.flight(9, 2), 3);
        Check.due("flight(10, 7)", court.flight(10, 7), 1);
        court.let();
        // Dead by a second bounce: in the moments 20 and 31, the first at the row 5 behind the front wall.
        court.serve(0, -1, 9);
        dueEnd("two bounces", court, 3, 31, 1, 2, 0);
        court.let();
        // From the row 1 at 23: the front wall in the moment 2, bounces in 8 and 17, the buttress in 12.
        court.serve(-1, -2, 6);
        court.strike(8, 0, -1, 0);
        dueEnd("two bounces by the buttress", court, 3, 17, 1, 2, 1);
        court.let();
        // From the row 1 at 7: the front wall at once, buttress and bounce in the moment 6, and the
        // front wall again at 2, too low, in the moment 11 (the height counts ahead of its rise).
        court.serve(-1, -2, 4);
        court.strike(8, 0, -2, 1);
        dueEnd("low at the front behind a bounce", court, 1, 11, 2, 1, 1);
        court.let();
        // Struck at its bounce from 1 it is down in the moment 2.
        court.serve(0, -2, 6);
        court.strike(14, 0, -2, 0);
        dueEnd("struck low", court, 1, 2, 0, 1, 0);
    }

    /** A front touch at 3 is down, and one at 4 is not. */
    private static void endByTheLedge() {
        FivesCourt court = new FivesCourt();
        court.serve(0, -2, 6);
        court.strike(13, 0, -2, 2);
        dueEnd("at 3", court, 1, 6, 1, 0, 0);
        court.match(0);
        court.serve(0, -2, 6);
        court.strike(14, 0, -2, 3);
        Check.due("flight(6, 2)", court.flight(6, 2), 4);
        dueFlight(court, 7, 6, 0, 1, 0, 2, -4, 1, 0, 0);
        dueEnd("at 4", court, 3, 13, 1, 2, 0);
    }

    // ---- promise 13

    private static void would() {
        FivesCourt court = new FivesCourt();
        Check.due("would(0, 0, -2, 6) to serve", court.would(0, 0, -2, 6), 3);
        Check.due("would(0, 0, -2, 0) to serve", court.would(0, 0, -2, 0), 1);
        Check.due("would(0, 0, 2, 9) to serve", court.would(0, 0, 2, 9), 2);
        Check.due("would(1, 0, -2, 6) to serve", court.would(1, 0, -2, 6), -1);
        Check.due("would(60, 0, -2, 6) to serve", court.would(60, 0, -2, 6), -1);
        court.serve(0, -2, 6);
        Check.due("would(0, ..) in a rally", court.would(0, 0, -2, 6), -1);
        Check.due("would(7, ..) ahead of the front touch", court.would(7, 0, -2, 6), -1);
        Check.due("would(8, 0, -2, 0)", court.would(8, 0, -2, 0), 3);
        Check.due("would(8, 0, -2, 6)", court.would(8, 0, -2, 6), 2);
        Check.due("would(8, 0, 0, 6)", court.would(8, 0, 0, 6), 1);
        Check.due("would(22, 0, 1, 9)", court.would(22, 0, 1, 9), 2);
        Check.due("would(23, ..) behind the end", court.would(23, 0, 1, 9), -1);
        Check.due("would(60, ..) behind the end", court.would(60, 0, 1, 9), -1);
        // At 1, as it is struck at its bounce, and rising 0 it bounces in the moment 2.
        Check.due("would(14, 0, -2, 0)", court.would(14, 0, -2, 0), 1);
        dueBall("looked ahead", court, 6, 14, 3, 0, -2, 6);
        Check.due("strokes of the rally", court.count(2), 1);
        dueTold("looked ahead", court, 1, 0, 0, 0, 0);
    }

    private static void wouldWrongly() {
        FivesCourt court = new FivesCourt();
        for (int turn = 0; turn < 2; turn++) {
            for (int moments : new int[] {-1, 61, Integer.MIN_VALUE, Integer.MAX_VALUE}) {
                Check.dueThrow("would(" + moments + ", ..)", court, ARGUMENT, () -> court.would(moments, 0, 0, 0));
                Check.dueThrow("advise(" + moments + ")", court, ARGUMENT, () -> court.advise(moments));
            }
            for (int way : NO_WAYS) {
                Check.dueThrow("would across " + way, court, ARGUMENT, () -> court.would(0, way, 0, 0));
                Check.dueThrow("would along " + way, court, ARGUMENT, () -> court.would(0, 0, way, 0));
            }
            for (int rise : NO_RISES) {
                Check.dueThrow("would rising " + rise, court, ARGUMENT, () -> court.would(0, 0, 0, rise));
            }
            if (turn == 0) {
                court.serve(0, -2, 6);
            }
        }
    }

    // ---- promise 14

    private static void advise() {
        FivesCourt court = new FivesCourt();
        Check.due("advise(0) to serve", court.advise(0), 4);
        Check.due("advise(1) to serve", court.advise(1), -1);
        court.serve(0, -2, 6);
        Check.due("advise(0) in a rally", court.advise(0), -1);
        Check.due("advise(7) ahead of the front touch", court.advise(7), -1);
        Check.due("advise(23) behind the end", court.advise(23), -1);
        dueBall("looked ahead", court, 6, 14, 3, 0, -2, 6);
        for (int moments = 8; moments < 23; moments++) {
            dueAdvice(moments, 0, -2, 6);
        }
        // Where the best goes along 2, and where it goes straight ahead.
        Check.due("advise(15) along 2", dueAdvice(15, 0, -1, 7), 95);
        Check.due("advise(15) straight ahead", dueAdvice(15, 1, -2, 4), 103);
    }

    private static int dueAdvice(int moments, int... serve) {
        FivesCourt court = new FivesCourt();
        court.serve(serve[0], serve[1], serve[2]);
        int advice = court.advise(moments);
        Check.due("advise(" + moments + ")", advice, adviseByTrying(moments, serve));
        return advice;
    }

    /** Plays every stroke in a court of its own, and keeps the shortest that ends dead. */
    private static int adviseByTrying(int moments, int... serve) {
        int best = -1;
        int shortest = Integer.MAX_VALUE;
        for (int code = 0; code < 250; code++) {
            FivesCourt court = new FivesCourt();
            court.serve(serve[0], serve[1], serve[2]);
            if (court.strike(moments, code / 50 - 2, code / 10 % 5 - 2, code % 10) != 0) {
                return -1;
            }
            if (court.end(0) == 3 && court.end(1) < shortest) {
                shortest = court.end(1);
                best = code;
            }
        }
        return best;
    }

    /** By turns struck at the rows 5 and 14 the ball climbs by 45 each time, till every stroke is out. */
    private static void adviseWithoutOne() {
        FivesCourt court = new FivesCourt();
        court.serve(0, -2, 9);
        for (int stroke = 1; stroke <= 100; stroke++) {
            Check.due("a climbing stroke", court.strike(10, 0, -2, 9), 0);
            dueBall("climbing", court, 6, stroke % 2 == 0 ? 14 : 5, 3 + 45 * stroke, 0, -2, 9);
        }
        Check.due("advise(10) of a ball too high", court.advise(10), -1);
        Check.due("would(10, 0, -1, 0) of a ball too high", court.would(10, 0, -1, 0), 2);
        Check.due("would(10, 0, 0, 0) of a ball too high", court.would(10, 0, 0, 0), 1);
        // Straight up from 4548 it rises by 45 in 10 moments, and is at 0 or less in the moment 106.
        court.strike(10, 0, 0, 9);
        dueEnd("a long fall", court, 1, 106, 0, 1, 0);
    }

    // ---- promises 15 and 16

    private static void mean() {
        FivesCourt court = new FivesCourt();
        court.serve(0, -2, 6);
        Check.dueDouble("mean() in the first rally", court.mean(), 0.0);
        court.strike(10, -2, -2, 4);
        court.leave();
        Check.dueDouble("mean() of 2", court.mean(), 2.0);
        winServing(court);
        Check.dueDouble("mean() of 2, 1", court.mean(), 1.5);
        court.serve(0, -2, 6);
        court.strike(10, -2, -2, 4);
        court.let();
        Check.dueDouble("mean() behind a let", court.mean(), 1.5);
        court.match(0);
        winServing(court);
        Check.dueDouble("mean() of 2, 1, 1", court.mean(), 4.0 / 3.0);
    }

    private static void digest() {
        FivesCourt court = new FivesCourt();
        Check.due("digest() of a new one", court.digest(), digestByHand(court));
        winGame(court, 1);
        court.serve(-1, -2, 6);
        court.strike(8, 0, 2, 5);
        Check.due("digest() in a rally", court.digest(), digestByHand(court));
        Check.due("digest() changes nothing", court.digest(), digestByHand(court));
        court.leave();
        Check.due("digest() behind a rally", court.digest(), digestByHand(court));
    }

    private static long digestByHand(FivesCourt court) {
        int[] numbers = {
            court.count(0), court.count(1), court.count(2), court.count(3), court.count(4),
            court.count(5), court.count(6), court.count(7), court.count(8),
            court.told(0, 0), court.told(0, 1), court.told(0, 2), court.told(0, 3),
            court.told(1, 0), court.told(1, 1), court.told(1, 2), court.told(1, 3),
            court.ball(0), court.ball(1), court.ball(2), court.ball(3), court.ball(4), court.ball(5),
            court.end(0), court.end(1), court.end(2), court.end(3), court.end(4)};
        long d = 1801;
        for (int x : numbers) {
            d = d * 31 + x;
        }
        return d;
    }
}
