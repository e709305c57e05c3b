import java.math.BigInteger;
import java.util.ArrayList;
import java.util.List;

/**
 * Each sentence of the document's promises that names a boundary case, by a test of its own:
 * what is just inside a range and just outside of it, nothing played, no rally going on, refused
 * calls in every state, and the wrap-around of the checksum.
 */
public final class PromisesEdgesTest extends CourtCase {
    private static final int SERVE = 0;
    private static final int STRIKE = 1;
    private static final int WOULD = 2;
    private static final int[] STATES = {0, 1, 2, 3, 4, 5, 6, 7};

    private PromisesEdgesTest() {
    }

    public static void main(String[] args) {
        newObject();
        strokesInsideTheirRanges();
        serve();
        strike();
        leave();
        let();
        set();
        match();
        ball();
        told();
        count();
        flight();
        end();
        would();
        advise();
        mean();
        digest();
        refusedInEveryState();
        refusedCallsInARun();
        lookingChangesNothing();
        manyCalls();
        Check.finish("PromisesEdgesTest");
    }

    // ---- the states in which a call may come

    /** 0 new, 1 served, 2 struck, 3 tight, 4 a rally of a tight game, 5 set, 6 behind a match, 7 in another match. */
    private static FivesCourt inState(int state) {
        FivesCourt court;
        switch (state) {
            case 0:
                return new FivesCourt();
            case 1:
                return played(0, -2, 6);
            case 2:
                return played(-1, -2, 6, 8, 0, -2, 5);
            case 3:
                return broughtTo(10, 10);
            case 4:
                court = broughtTo(11, 11);
                playOn(court, 0, -2, 6);
                return court;
            case 5:
                court = broughtTo(10, 10);
                Check.due("set(5)", court.set(5), 15);
                return court;
            case 6:
                return afterMatchOf(1);
            default:
                court = afterMatchOf(0);
                Check.due("match(1)", court.match(1), 3);
                return court;
        }
    }

    private static boolean isRallyIn(int state) {
        return state == 1 || state == 2 || state == 4;
    }

    // ---- promise 1

    /** "Creates a match in which nothing was played; the side 0 serves." */
    private static void newObject() {
        FivesCourt court = new FivesCourt();
        dueCounts("new", court, 0, -1, 0, 0, 0, 12, 0, -1, 0);
        dueTold("new", court, 0, 0, 0, 0, 0);
        dueTold("new", court, 1, 0, 0, 0, 0);
        dueBall("new", court, 0, 0, 0, 0, 0, 0);
        dueEnd("new", court, 0, 0, 0, 0, 0);
        for (int moments = 0; moments <= 60; moments++) {
            dueNoFlight(court, moments);
        }
        Check.dueDouble("new: mean()", court.mean(), 0.0);
        Check.due("new: match(0)", court.match(0), 0);
        Check.due("new: serve()", new FivesCourt().serve(0, -2, 6), 0);
    }

    // ---- promises 2, 3 and 13: what a stroke may be

    /** "across is not -2 to 2, along is not -2 to 2, or rise is not 0 to 9": every stroke inside of these comes. */
    private static void strokesInsideTheirRanges() {
        FivesCourt court = new FivesCourt();
        FivesCourt none = new FivesCourt();
        for (int code = 0; code < 250; code++) {
            int across = code / 50 - 2;
            int along = code / 10 % 5 - 2;
            int rise = code % 10;
            playOn(court, across, along, rise);
            dueBall("a serve", court, 6, 14, 3, across, along, rise);
            int end = court.end(0);
            Check.due("would() of that serve", none.would(0, across, along, rise), end);
            court.match(0);
            playOn(court, 0, -2, 6);
            int would = court.would(8, across, along, rise);
            Check.due("a stroke", court.strike(8, across, along, rise), 0);
            dueBall("a stroke", court, 6, 1, 23, across, along, rise);
            Check.due("would() ahead of that stroke", would, court.end(0));
            court.match(0);
        }
    }

    /** Just outside of them: each alone, whatever the other ones are. */
    private static void dueOutOfRange(FivesCourt court, int kind) {
        int[] ways = {-3, 3, Integer.MIN_VALUE, Integer.MAX_VALUE, 256 - 2, -256};
        int[] rises = {-1, 10, Integer.MIN_VALUE, Integer.MAX_VALUE, 256};
        for (int way : ways) {
            dueRefused(court, kind, way, -2, 6);
            dueRefused(court, kind, 0, way, 6);
            dueRefused(court, kind, way, way, -1);
        }
        for (int rise : rises) {
            dueRefused(court, kind, 0, -2, rise);
        }
    }

    private static void dueRefused(FivesCourt court, int kind, int across, int along, int rise) {
        String stroke = across + ", " + along + ", " + rise + ")";
        switch (kind) {
            case SERVE:
                Check.dueThrow("serve(" + stroke, court, ARGUMENT, () -> court.serve(across, along, rise));
                break;
            case STRIKE:
                Check.dueThrow("strike(8, " + stroke, court, ARGUMENT, () -> court.strike(8, across, along, rise));
                break;
            default:
                Check.dueThrow("would(0, " + stroke, court, ARGUMENT, () -> court.would(0, across, along, rise));
                Check.dueThrow("would(8, " + stroke, court, ARGUMENT, () -> court.would(8, across, along, rise));
                break;
        }
    }

    // ---- promise 2

    private static void serve() {
        serveByEitherSide();
        serveWhileARallyGoesOn();
        serveBehindAMatch();
        serveOutOfRange();
    }

    /** "Returns the side that serves." */
    private static void serveByEitherSide() {
        FivesCourt court = new FivesCourt();
        for (int side = 1; side >= 0; side--) {
            court.match(side);
            Check.due("serve() of " + side, court.serve(0, -2, 6), side);
            dueTold("served", court, side, 0, 0, 0, 1);
            dueTold("served", court, 1 - side, 0, 0, 0, 0);
        }
    }

    /** "Throws IllegalStateException if a rally goes on": behind each end of it a serve comes again. */
    private static void serveWhileARallyGoesOn() {
        FivesCourt court = played(0, -2, 6);
        Check.dueThrow("serve() in a rally", court, STATE, () -> court.serve(0, -2, 6));
        court.strike(8, 0, -2, 6);
        Check.dueThrow("serve() behind a stroke", court, STATE, () -> court.serve(0, -2, 6));
        court.let();
        Check.due("serve() behind a let", court.serve(0, -2, 6), 0);
        court.strike(1, 0, -2, 6);
        Check.due("serve() behind a let by strike()", court.serve(0, -2, 6), 0);
        court.strike(60, 0, -2, 6);
        Check.due("serve() behind a rally won by strike()", court.serve(0, -2, 0), 0);
        court.leave();
        Check.due("serve() behind a rally won by leave()", court.serve(0, -2, 6), 1);
        court.match(0);
        Check.due("serve() behind match()", court.serve(0, -2, 6), 0);
    }

    /** "or the match is over": with three games, till match() begins another one. */
    private static void serveBehindAMatch() {
        FivesCourt court = afterMatchOf(0);
        Check.dueThrow("serve() behind the match", court, STATE, () -> court.serve(0, -2, 6));
        court.match(0);
        Check.due("serve() in another match", court.serve(0, -2, 6), 0);
    }

    private static void serveOutOfRange() {
        dueOutOfRange(new FivesCourt(), SERVE);
        // Both exceptions apply in a rally and behind a match: the one that is named first is thrown.
        dueOutOfRange(inState(1), SERVE);
        dueOutOfRange(inState(6), SERVE);
    }

    // ---- promise 3

    private static void strike() {
        strikeBehindOneMoment();
        strikeBehindSixtyMoments();
        strikeBehindSixtyWithoutAFrontTouch();
        strikeOutOfRange();
        strikeWithoutARally();
    }

    /** "moments is not 1 to 60": 1 is inside, in each of its three answers. */
    private static void strikeBehindOneMoment() {
        FivesCourt court = played(0, -2, 6, 8, 0, -2, 6);
        Check.due("strike(1, ..) at the front wall", court.strike(1, 0, -2, 6), 0);
        dueBall("struck at the front wall", court, 6, 0, 29, 0, -2, 6);
        Check.due("strike(1, ..) ahead of the front wall", played(0, -2, 6).strike(1, 0, -2, 6), 1);
        // From the row 29 a ball is out in one moment.
        FivesCourt out = played(0, -2, 6, 22, 0, 1, 9);
        dueEnd("out at once", out, 2, 1, 0, 0, 0);
        Check.due("strike(1, ..) of a ball that is out", out.strike(1, 0, -2, 6), 2);
    }

    /** The same: 60 is inside; a flight of 61 moments goes on then, and one of 60 has ended. */
    private static void strikeBehindSixtyMoments() {
        FivesCourt on = climbed(6, 0, -2, 8);
        dueEnd("61 moments", on, 3, 61, 7, 2, 6);
        Check.due("strike(60, ..) of 61", on.strike(60, 1, -1, 5), 0);
        dueBall("struck behind 60 moments", on, 1, 1, 13, 1, -1, 5);
        FivesCourt ended = climbed(6, 0, -2, 7);
        dueEnd("60 moments", ended, 3, 60, 6, 2, 6);
        Check.due("strike(59, ..) of 60", climbed(6, 0, -2, 7).strike(59, 1, -1, 5), 0);
        Check.due("strike(60, ..) of 60", ended.strike(60, 1, -1, 5), 3);
    }

    /** A high ball that goes straight up flies for longer, and has no front touch by then. */
    private static void strikeBehindSixtyWithoutAFrontTouch() {
        // From 15 + 45 * 28 = 1275, rising 9: by 9 * 60 - 59 * 30 = -1230 lower, it is at 45 behind 60 moments.
        FivesCourt court = climbed(28, 0, 0, 9);
        dueFlight(court, 60, 1, 1, 45, 0, 0, -51, 0, 0, 0);
        dueEnd("straight up", court, 1, 61, 0, 1, 0);
        Check.due("strike(60, ..) without a front touch", court.strike(60, 0, -2, 9), 1);
    }

    private static void strikeOutOfRange() {
        for (int state : new int[] {0, 1, 6}) {
            FivesCourt court = inState(state);
            dueOutOfRange(court, STRIKE);
            for (int moments : new int[] {0, 61, -1, Integer.MIN_VALUE, Integer.MAX_VALUE, 256 + 8}) {
                Check.dueThrow("strike(" + moments + ", ..)", court, ARGUMENT, () -> court.strike(moments, 0, -2, 6));
                Check.dueThrow("strike(" + moments + ", 3, ..)", court, ARGUMENT, () -> court.strike(moments, 3, 3, 10));
            }
        }
    }

    /** "Throws IllegalStateException if no rally goes on". */
    private static void strikeWithoutARally() {
        for (int state : STATES) {
            if (!isRallyIn(state)) {
                FivesCourt court = inState(state);
                Check.dueThrow("strike(1, ..) in the state " + state, court, STATE, () -> court.strike(1, 0, -2, 6));
                Check.dueThrow("strike(60, ..) in the state " + state, court, STATE, () -> court.strike(60, 2, 2, 9));
            }
        }
    }

    // ---- promise 4

    /** "Throws IllegalStateException if no rally goes on": and wins one that does. */
    private static void leave() {
        for (int state : STATES) {
            FivesCourt court = inState(state);
            if (isRallyIn(state)) {
                int rallies = court.count(3);
                int winner = court.end(0) == 3 ? 1 - court.count(1) : court.count(1);
                Check.due("leave() in the state " + state, court.leave(), 2 + winner);
                Check.due("rallies in the state " + state, court.count(3), rallies + 1);
            }
            Check.dueThrow("leave() in the state " + state, court, STATE, court::leave);
        }
        FivesCourt court = played(0, -2, 6);
        court.let();
        Check.dueThrow("leave() behind a let", court, STATE, court::leave);
        playOn(court, 0, -2, 6);
        court.match(0);
        Check.dueThrow("leave() behind match()", court, STATE, court::leave);
    }

    // ---- promise 5

    /** "Returns how many strokes it had, the serve as well"; "nobody wins it"; refused "if no rally goes on". */
    private static void let() {
        for (int state : STATES) {
            FivesCourt court = inState(state);
            if (isRallyIn(state)) {
                int lets = court.count(4);
                int rallies = court.count(3);
                int server = court.count(0);
                Check.due("let() in the state " + state, court.let(), state == 2 ? 2 : 1);
                dueCounts("let in the state " + state, court, server, -1, 0, rallies, lets + 1);
            }
            Check.dueThrow("let() in the state " + state, court, STATE, court::let);
        }
        FivesCourt longRally = climbed(28, 0, 0, 9);
        Check.due("let() of a long rally", longRally.let(), 30);
        dueTold("let", longRally, 0, 0, 0, 0, 15);
        dueTold("let", longRally, 1, 0, 0, 0, 15);
    }

    // ---- promise 6

    private static void set() {
        setByThreeOrFive();
        setInARally();
        setTwice();
        setOutOfRange();
    }

    /** "more: 3 or 5. Returns to how many points." */
    private static void setByThreeOrFive() {
        Check.due("set(3) at 10", broughtTo(10, 10).set(3), 13);
        Check.due("set(5) at 10", broughtTo(10, 10).set(5), 15);
        Check.due("set(3) at 11", broughtTo(11, 11).set(3), 14);
        Check.due("set(5) at 11", broughtTo(11, 11).set(5), 16);
    }

    /** "Throws IllegalStateException if a rally goes on": ahead of it and behind it the game can be set. */
    private static void setInARally() {
        FivesCourt court = inState(4);
        Check.due("count(6) in a rally", court.count(6), 0);
        Check.dueThrow("set(3) in a rally", court, STATE, () -> court.set(3));
        court.let();
        Check.due("count(6) behind the rally", court.count(6), 1);
        Check.due("set(3) behind the rally", court.set(3), 14);
    }

    /** "the game is not tight, or was set already". */
    private static void setTwice() {
        for (int state : new int[] {0, 5, 6, 7}) {
            FivesCourt court = inState(state);
            Check.due("count(6) in the state " + state, court.count(6), 0);
            Check.dueThrow("set(3) in the state " + state, court, STATE, () -> court.set(3));
            Check.dueThrow("set(5) in the state " + state, court, STATE, () -> court.set(5));
        }
    }

    /** "Throws IllegalArgumentException if more is not 3 or 5": 4 is not, and it is named first in every state. */
    private static void setOutOfRange() {
        for (int state : STATES) {
            FivesCourt court = inState(state);
            for (int more : new int[] {4, 2, 6, 0, -3, -5, Integer.MIN_VALUE, Integer.MAX_VALUE, 256 + 3}) {
                Check.dueThrow("set(" + more + ") in the state " + state, court, ARGUMENT, () -> court.set(more));
            }
        }
    }

    // ---- promise 7

    private static void match() {
        matchOfEitherSide();
        matchInARally();
        matchReturnsTheGames();
        matchKeepsWhatIsOfAll();
        matchOutOfRange();
    }

    /** "side: the side that serves": also if the other one has served so far, or just now. */
    private static void matchOfEitherSide() {
        for (int state : STATES) {
            for (int side = 0; side < 2; side++) {
                FivesCourt court = inState(state);
                Check.due("match() in the state " + state, court.match(side), state == 6 ? 3 : 0);
                Check.due("who serves", court.count(0), side);
                Check.due("serve()", court.serve(0, -2, 6), side);
            }
        }
    }

    /** "a rally that goes on is over (and no let is counted)". */
    private static void matchInARally() {
        FivesCourt court = played(0, -2, 6, 8, 0, -2, 6);
        Check.due("match(1)", court.match(1), 0);
        dueCounts("match in a rally", court, 1, -1, 0, 0, 0, 12, 0, -1, 0);
        dueBall("match in a rally", court, 0, 0, 0, 0, 0, 0);
        dueEnd("match in a rally", court, 0, 0, 0, 0, 0);
        dueNoFlight(court, 0);
        Check.dueThrow("let() behind it", court, STATE, court::let);
        Check.dueDouble("mean() behind it", court.mean(), 0.0);
    }

    /** "Returns how many games the match ahead had": of both sides, none to five, and of that match alone. */
    private static void matchReturnsTheGames() {
        FivesCourt court = new FivesCourt();
        for (int games = 0; games <= 4; games++) {
            for (int game = 0; game < games; game++) {
                winGame(court, game % 2);
            }
            Check.due("match() behind " + games, court.match(games % 2), games);
        }
        FivesCourt five = new FivesCourt();
        for (int game = 0; game < 5; game++) {
            winGame(five, game % 2);
        }
        Check.due("match() behind 5", five.match(0), 5);
        Check.due("match() at once", five.match(0), 0);
    }

    /** "(2, 5 and 7 of this rally, game and match; the others of all)": 3, 4 and 8, and mean(), stay. */
    private static void matchKeepsWhatIsOfAll() {
        FivesCourt court = inState(5);
        playOn(court, 0, -2, 6);
        court.let();
        playOn(court, 0, -2, 6, 8, 0, -2, 6);
        court.leave();
        int rallies = court.count(3);
        double mean = court.mean();
        Check.due("match(0)", court.match(0), 0);
        dueCounts("another match", court, 0, -1, 0, rallies, 1, 12, 0, -1, 0);
        dueTold("another match", court, 0, 0, 0, 0, 0);
        dueTold("another match", court, 1, 0, 0, 0, 0);
        Check.dueDouble("mean()", court.mean(), mean);
        FivesCourt over = afterMatchOf(1);
        dueCounts("behind the match", over, 1, -1, 0, 37, 0, 12, 0, 1, 3);
        over.match(0);
        dueCounts("another match", over, 0, -1, 0, 37, 0, 12, 0, -1, 3);
    }

    /** "Throws IndexOutOfBoundsException if side is not 0 or 1". */
    private static void matchOutOfRange() {
        for (int state : STATES) {
            FivesCourt court = inState(state);
            for (int side : new int[] {-1, 2, Integer.MIN_VALUE, Integer.MAX_VALUE, 256}) {
                Check.dueThrow("match(" + side + ") in the state " + state, court, INDEX, () -> court.match(side));
            }
        }
    }

    // ---- promises 8, 9, 10 and 12: what is told

    /** "what is not 0 to 5"; "of the ball as it was struck last"; "0 if no rally goes on". */
    private static void ball() {
        for (int state : STATES) {
            FivesCourt court = inState(state);
            for (int what : new int[] {-1, 6, Integer.MIN_VALUE, Integer.MAX_VALUE, 256}) {
                Check.dueThrow("ball(" + what + ") in the state " + state, court, INDEX, () -> court.ball(what));
            }
            if (!isRallyIn(state)) {
                dueBall("no rally in the state " + state, court, 0, 0, 0, 0, 0, 0);
            }
        }
        dueBall("served", inState(1), 6, 14, 3, 0, -2, 6);
        dueBall("struck", inState(2), 1, 1, 23, 0, -2, 5);
        FivesCourt ended = inState(2);
        ended.leave();
        dueBall("behind the rally", ended, 0, 0, 0, 0, 0, 0);
    }

    /** "side is not 0 or 1, or what is not 0 to 3". */
    private static void told() {
        for (int state : STATES) {
            FivesCourt court = inState(state);
            for (int bad : new int[] {-1, 4, Integer.MIN_VALUE, Integer.MAX_VALUE, 256}) {
                Check.dueThrow("told(" + bad + ", 0)", court, INDEX, () -> court.told(bad, 0));
                Check.dueThrow("told(0, " + bad + ")", court, INDEX, () -> court.told(0, bad));
                Check.dueThrow("told(1, " + bad + ")", court, INDEX, () -> court.told(1, bad));
                Check.dueThrow("told(" + bad + ", " + bad + ")", court, INDEX, () -> court.told(bad, bad));
            }
            Check.dueThrow("told(2, 3)", court, INDEX, () -> court.told(2, 3));
        }
        strokesThatDidNotCome();
    }

    /** "strokes that it played in this match, serves as well (those that did not come do not count)". */
    private static void strokesThatDidNotCome() {
        FivesCourt court = played(0, -2, 6);
        dueTold("a serve", court, 0, 0, 0, 0, 1);
        court.strike(8, 0, -2, 6);
        dueTold("a stroke", court, 1, 0, 0, 0, 1);
        court.strike(60, 0, -2, 6);
        dueTold("a stroke at an ended flight", court, 0, 1, 0, 1, 1);
        playOn(court, 0, -2, 6);
        court.strike(7, 0, -2, 6);
        dueTold("a stroke that was a let", court, 1, 0, 0, 0, 1);
        dueTold("serves", court, 0, 1, 0, 1, 2);
    }

    /** "what is not 0 to 8"; "the side whose turn it is to strike, -1 if no rally goes on". */
    private static void count() {
        for (int state : STATES) {
            FivesCourt court = inState(state);
            for (int what : new int[] {-1, 9, Integer.MIN_VALUE, Integer.MAX_VALUE, 256}) {
                Check.dueThrow("count(" + what + ") in the state " + state, court, INDEX, () -> court.count(what));
            }
            if (!isRallyIn(state)) {
                Check.due("count(1) in the state " + state, court.count(1), -1);
                Check.due("count(2) in the state " + state, court.count(2), 0);
            }
            Check.due("count(6) in the state " + state, court.count(6), state == 3 ? 1 : 0);
            Check.due("count(7) in the state " + state, court.count(7), state == 6 ? 1 : -1);
            Check.due("count(5) in the state " + state, court.count(5), state == 5 ? 15 : 12);
        }
        dueCounts("served", inState(1), 0, 1, 1, 0, 0);
        dueCounts("struck", inState(2), 0, 0, 2, 0, 0);
        Check.due("count(7) of a match of 0", afterMatchOf(0).count(7), 0);
    }

    // ---- promise 11

    private static void flight() {
        flightFromNoMomentsToSixty();
        flightEndedByThen();
        flightWithoutARally();
        flightOutOfRange();
    }

    /** "0 to 60": behind 0 moments the ball is as it was struck, and 60 is inside. */
    private static void flightFromNoMomentsToSixty() {
        dueFlight(inState(1), 0, 6, 14, 3, 0, -2, 6, 0, 0, 0);
        dueFlight(inState(2), 0, 1, 1, 23, 0, -2, 5, 0, 0, 0);
        dueFlight(climbed(6, 0, -2, 8), 60, 1, 1, 13, 0, -2, -13, 6, 1, 6);
    }

    /** "-99 if its flight has ended by then": in the moment of its end, and not one ahead. */
    private static void flightEndedByThen() {
        int[][] runs = {{0, -2, 6}, {0, 2, 9}, {0, -2, 0}, {0, -2, 9, 8, 0, -2, 4}, {0, -2, 5, 8, -1, -2, 2}};
        int[] ends = {23, 8, 3, 16, 11};
        for (int run = 0; run < runs.length; run++) {
            FivesCourt court = played(runs[run]);
            Check.due("end(1)", court.end(1), ends[run]);
            for (int what = 0; what < 9; what++) {
                Check.due("ended ahead of its end", court.flight(ends[run] - 1, what) == -99 ? 1 : 0, 0);
            }
            dueNoFlight(court, ends[run]);
            dueNoFlight(court, ends[run] + 1);
            dueNoFlight(court, 60);
        }
        FivesCourt sixty = climbed(6, 0, -2, 7);
        Check.due("flight(59, 7) of 60", sixty.flight(59, 7), 1);
        dueNoFlight(sixty, 60);
    }

    /** "or no rally goes on". */
    private static void flightWithoutARally() {
        for (int state : STATES) {
            if (!isRallyIn(state)) {
                FivesCourt court = inState(state);
                dueNoFlight(court, 0);
                dueNoFlight(court, 1);
                dueNoFlight(court, 60);
            }
        }
    }

    /** "moments is not 0 to 60", then "what is not 0 to 8": the first is named first. */
    private static void flightOutOfRange() {
        for (int state : STATES) {
            FivesCourt court = inState(state);
            for (int moments : new int[] {-1, 61, Integer.MIN_VALUE, Integer.MAX_VALUE, 256}) {
                for (int what : new int[] {0, 8, -1, 9}) {
                    Check.dueThrow("flight(" + moments + ", " + what + ")", court, ARGUMENT,
                            () -> court.flight(moments, what));
                }
            }
            for (int what : new int[] {-1, 9, Integer.MIN_VALUE, Integer.MAX_VALUE, 256}) {
                for (int moments : new int[] {0, 8, 60}) {
                    Check.dueThrow("flight(" + moments + ", " + what + ")", court, INDEX,
                            () -> court.flight(moments, what));
                }
            }
        }
    }

    // ---- promise 12

    /** "what is not 0 to 4"; "0 if no rally goes on"; "of the flight of the latest stroke". */
    private static void end() {
        for (int state : STATES) {
            FivesCourt court = inState(state);
            for (int what : new int[] {-1, 5, Integer.MIN_VALUE, Integer.MAX_VALUE, 256}) {
                Check.dueThrow("end(" + what + ") in the state " + state, court, INDEX, () -> court.end(what));
            }
            if (!isRallyIn(state)) {
                dueEnd("no rally in the state " + state, court, 0, 0, 0, 0, 0);
            }
        }
        dueEnd("served", inState(1), 3, 23, 1, 1, 0);
        dueEnd("struck", inState(2), 3, 26, 3, 2, 3);
        FivesCourt over = inState(2);
        over.leave();
        dueEnd("behind the rally", over, 0, 0, 0, 0, 0);
        // A stroke at the row 29 is out in the first moment: no flight is shorter.
        dueEnd("a moment", played(0, -2, 6, 22, 0, 1, 9), 2, 1, 0, 0, 0);
    }

    // ---- promise 13

    private static void would() {
        wouldToServe();
        wouldInARally();
        wouldBehindSixtyMoments();
        wouldBehindAMatch();
        wouldOutOfRange();
    }

    /** "0 to serve, if no rally goes on"; "-1 .. without a rally with other moments than 0". */
    private static void wouldToServe() {
        for (int state : new int[] {0, 3, 5, 7}) {
            FivesCourt court = inState(state);
            Check.due("would(0, 0, -2, 6) to serve", court.would(0, 0, -2, 6), 3);
            Check.due("would(0, 0, -2, 0) to serve", court.would(0, 0, -2, 0), 1);
            Check.due("would(0, 0, 2, 9) to serve", court.would(0, 0, 2, 9), 2);
            Check.due("would(1, ..) to serve", court.would(1, 0, -2, 6), -1);
            Check.due("would(60, ..) to serve", court.would(60, 0, -2, 6), -1);
        }
    }

    /** "-1 .. as a rally goes on with 0 moments, if its flight has ended by then, or had no front touch". */
    private static void wouldInARally() {
        FivesCourt court = inState(1);
        Check.due("would(0, ..) in a rally", court.would(0, 0, -2, 6), -1);
        Check.due("would(1, ..) ahead of the front touch", court.would(1, 0, -2, 6), -1);
        Check.due("would(7, ..) just ahead of the front touch", court.would(7, 0, -2, 6), -1);
        Check.due("would(8, ..) in the moment of the front touch", court.would(8, 0, -2, 0), 3);
        Check.due("would(22, ..) just ahead of the end", court.would(22, 0, 1, 9), 2);
        Check.due("would(23, ..) in the moment of the end", court.would(23, 0, 1, 9), -1);
        Check.due("would(24, ..) behind the end", court.would(24, 0, 1, 9), -1);
        // The front wall is touched in the first moment, and 0 moments are none all the same.
        FivesCourt atOnce = played(0, -2, 6, 8, 0, -2, 6);
        Check.due("would(0, ..) at the front wall", atOnce.would(0, 0, 2, 9), -1);
        Check.due("would(1, ..) at the front wall", atOnce.would(1, 0, 2, 9), 2);
    }

    /** "moments is not 0 to 60": 60 is inside, for a flight that goes on then. */
    private static void wouldBehindSixtyMoments() {
        Check.due("would(60, ..) of 61", climbed(6, 0, -2, 8).would(60, 0, -2, 8), 3);
        Check.due("would(60, ..) of 61", climbed(6, 0, -2, 8).would(60, 0, 0, 9), 1);
        Check.due("would(59, ..) of 60", climbed(6, 0, -2, 7).would(59, 0, 0, 9), 1);
        Check.due("would(60, ..) of 60", climbed(6, 0, -2, 7).would(60, 0, 0, 9), -1);
    }

    /** "or as the match is over": with 0 moments as well. */
    private static void wouldBehindAMatch() {
        FivesCourt court = inState(6);
        Check.due("would(0, ..) behind the match", court.would(0, 0, -2, 6), -1);
        Check.due("would(1, ..) behind the match", court.would(1, 0, -2, 6), -1);
        Check.due("would(60, ..) behind the match", court.would(60, 0, -2, 6), -1);
        court.match(0);
        Check.due("would(0, ..) in another match", court.would(0, 0, -2, 6), 3);
    }

    private static void wouldOutOfRange() {
        for (int state : new int[] {0, 1, 6}) {
            FivesCourt court = inState(state);
            dueOutOfRange(court, WOULD);
            for (int moments : new int[] {-1, 61, Integer.MIN_VALUE, Integer.MAX_VALUE, 256 + 8}) {
                Check.dueThrow("would(" + moments + ", ..)", court, ARGUMENT, () -> court.would(moments, 0, -2, 6));
            }
        }
    }

    // ---- promise 14

    private static void advise() {
        adviseToServe();
        adviseTheSmallestOfSeveral();
        adviseTheShortest();
        adviseInARally();
        adviseWithoutOne();
        adviseBehindSixtyMoments();
        adviseOutOfRange();
    }

    /** "as in would()": to serve with 0 moments alone, and none behind a match. */
    private static void adviseToServe() {
        for (int state : new int[] {0, 3, 5, 7}) {
            FivesCourt court = inState(state);
            Check.due("advise(0) to serve", court.advise(0), 4);
            Check.due("advise(1) to serve", court.advise(1), -1);
            Check.due("advise(60) to serve", court.advise(60), -1);
        }
        FivesCourt over = inState(6);
        Check.due("advise(0) behind the match", over.advise(0), -1);
        Check.due("advise(1) behind the match", over.advise(1), -1);
    }

    /** "of several the smallest": as short as the serve of 4, (-2, -2, 4), are others, and none is shorter. */
    private static void adviseTheSmallestOfSeveral() {
        List<Integer> shortest = new ArrayList<>();
        int moments = Integer.MAX_VALUE;
        for (int code = 0; code < 250; code++) {
            FivesCourt court = played(code / 50 - 2, code / 10 % 5 - 2, code % 10);
            if (court.end(0) == 3 && court.end(1) <= moments) {
                if (court.end(1) < moments) {
                    shortest.clear();
                }
                moments = court.end(1);
                shortest.add(code);
            }
        }
        Check.due("some are as short", shortest.size() > 1 ? 1 : 0, 1);
        Check.due("advise(0)", new FivesCourt().advise(0), shortest.get(0));
    }

    /** In a rally as in would(): not with 0 moments, nor ahead of the front touch, nor behind the end. */
    private static void adviseInARally() {
        FivesCourt court = inState(1);
        Check.due("advise(0) in a rally", court.advise(0), -1);
        Check.due("advise(7) just ahead of the front touch", court.advise(7), -1);
        Check.due("advise(8) in the moment of the front touch", court.advise(8) >= 0 ? 1 : 0, 1);
        Check.due("advise(22) just ahead of the end", court.advise(22), shortestByPlaying(22, 0, -2, 6));
        Check.due("advise(23) in the moment of the end", court.advise(23), -1);
        Check.due("advise(60) behind the end", court.advise(60), -1);
    }

    /** "of those that would end dead the one whose flight is the shortest": the codes at the ends of their ranges too. */
    private static void adviseTheShortest() {
        dueAdvice(0, 10, 1, -2, 6);
        // One moment shorter than the stroke 0 is the stroke 50.
        dueAdvice(50, 8, -2, -2, 6);
        dueAdvice(50, 16, -1, -1, 9);
        // Two along, two across, straight ahead.
        dueAdvice(95, 15, 0, -1, 7);
        dueAdvice(202, 27, 0, -2, 4, 11, -2, 1, 9);
        dueAdvice(100, 15, 1, -2, 9);
        dueAdvice(103, 15, 1, -2, 4);
    }

    private static void dueAdvice(int advice, int moments, int... run) {
        String call = "advise(" + moments + ")";
        Check.due(call + " by playing", shortestByPlaying(moments, run), advice);
        Check.due(call, played(run).advise(moments), advice);
    }

    /** Plays every stroke in a court of its own; the first one of those that are shortest. */
    private static int shortestByPlaying(int moments, int... run) {
        int best = -1;
        int length = Integer.MAX_VALUE;
        for (int code = 0; code < 250; code++) {
            FivesCourt tried = played(run);
            tried.strike(moments, code / 50 - 2, code / 10 % 5 - 2, code % 10);
            if (tried.end(0) == 3 && tried.end(1) < length) {
                length = tried.end(1);
                best = code;
            }
        }
        return best;
    }

    /** "-1 without one": so high a ball is out by each stroke along, and down by each one that is not. */
    private static void adviseWithoutOne() {
        FivesCourt court = played(0, -2, 9);
        for (int stroke = 1; stroke <= 100; stroke++) {
            Check.due("a climbing stroke", court.strike(10, 0, -2, 9), 0);
        }
        Check.due("strokes that would be dead", shortestOfHighBall(court), -1);
        Check.due("advise(10) of a ball too high", court.advise(10), -1);
    }

    private static int shortestOfHighBall(FivesCourt court) {
        for (int code = 0; code < 250; code++) {
            if (court.would(10, code / 50 - 2, code / 10 % 5 - 2, code % 10) == 3) {
                return code;
            }
        }
        return -1;
    }

    /** "moments is not 0 to 60": 60 is inside. */
    private static void adviseBehindSixtyMoments() {
        FivesCourt on = climbed(6, 0, -2, 8);
        int advice = on.advise(60);
        Check.due("advise(60) of 61", advice >= 0 ? 1 : 0, 1);
        Check.due("that stroke", on.strike(60, advice / 50 - 2, advice / 10 % 5 - 2, advice % 10), 0);
        Check.due("its end", on.end(0), 3);
        Check.due("advise(60) of 60", climbed(6, 0, -2, 7).advise(60), -1);
    }

    private static void adviseOutOfRange() {
        for (int state : STATES) {
            FivesCourt court = inState(state);
            for (int moments : new int[] {-1, 61, Integer.MIN_VALUE, Integer.MAX_VALUE, 256}) {
                Check.dueThrow("advise(" + moments + ")", court, ARGUMENT, () -> court.advise(moments));
            }
        }
    }

    // ---- promise 15

    /** "the mean strokes of rallies that were won in all matches, serves as well; 0 without any". */
    private static void mean() {
        FivesCourt court = new FivesCourt();
        Check.dueDouble("mean() of nothing", court.mean(), 0.0);
        playOn(court, 0, -2, 6);
        Check.dueDouble("mean() in the first rally", court.mean(), 0.0);
        court.let();
        Check.dueDouble("mean() behind a let", court.mean(), 0.0);
        playOn(court, 0, -2, 6);
        court.strike(7, 0, -2, 6);
        Check.dueDouble("mean() behind a let by strike()", court.mean(), 0.0);
        playOn(court, 0, -2, 6);
        court.match(0);
        Check.dueDouble("mean() behind a rally that match() ended", court.mean(), 0.0);
        playOn(court, 0, -2, 6);
        court.leave();
        Check.dueDouble("mean() of 1", court.mean(), 1.0);
        playOn(court, -1, -2, 5, 8, 0, -2, 9, 10, 0, -2, 9);
        court.leave();
        Check.dueDouble("mean() of 1 and 3", court.mean(), 2.0);
        playOn(court, 0, -2, 6, 8, 0, -2, 6);
        Check.dueDouble("mean() in the next rally", court.mean(), 2.0);
        court.leave();
        court.match(1);
        Check.dueDouble("mean() of 1, 3 and 2", court.mean(), 2.0);
        winServing(court);
        Check.dueDouble("mean() of 1, 3, 2 and 1", court.mean(), 1.75);
    }

    // ---- promise 16

    /** "A number d starts with 1801 .. which wraps around as a 64-bit integer". */
    private static void digest() {
        for (int state : STATES) {
            FivesCourt court = inState(state);
            BigInteger d = digestUnwrapped(court);
            Check.due("longer than 64 bits", d.bitLength() > 64 ? 1 : 0, 1);
            Check.due("digest() in the state " + state, court.digest(), d.longValue());
            Check.due("digest() again in the state " + state, court.digest(), d.longValue());
        }
        // 1801 * 31^28 and the numbers 12 and -1, -1 of a new one, taken modulo 2^64.
        BigInteger ofNew = BigInteger.valueOf(1801).multiply(power(28)).subtract(power(26))
                .add(BigInteger.valueOf(12).multiply(power(22))).subtract(power(20));
        Check.due("digest() of a new one", new FivesCourt().digest(), ofNew.longValue());
    }

    private static BigInteger power(int exponent) {
        return BigInteger.valueOf(31).pow(exponent);
    }

    private static BigInteger digestUnwrapped(FivesCourt court) {
        List<Integer> numbers = new ArrayList<>();
        for (int what = 0; what <= 8; what++) {
            numbers.add(court.count(what));
        }
        for (int side = 0; side <= 1; side++) {
            for (int what = 0; what <= 3; what++) {
                numbers.add(court.told(side, what));
            }
        }
        for (int what = 0; what <= 5; what++) {
            numbers.add(court.ball(what));
        }
        for (int what = 0; what <= 4; what++) {
            numbers.add(court.end(what));
        }
        BigInteger d = BigInteger.valueOf(1801);
        for (int x : numbers) {
            d = d.multiply(BigInteger.valueOf(31)).add(BigInteger.valueOf(x));
        }
        return d;
    }

    // ---- "A method that throws an exception changes nothing."

    /** In every state every call that is refused there, and then all that is told is that of a twin without them. */
    private static void refusedInEveryState() {
        for (int state : STATES) {
            FivesCourt court = inState(state);
            refuseAll(court, state);
            Check.dueSame("refused in the state " + state, Seen.of(court), Seen.of(inState(state)));
            FivesCourt twin = inState(state);
            playToTheEnd(court, twin, state);
        }
    }

    private static void refuseAll(FivesCourt court, int state) {
        boolean rally = isRallyIn(state);
        Check.dueThrow("serve(3, -2, 6)", court, ARGUMENT, () -> court.serve(3, -2, 6));
        Check.dueThrow("strike(0, 0, -2, 6)", court, ARGUMENT, () -> court.strike(0, 0, -2, 6));
        Check.dueThrow("strike(60, 0, -2, 10)", court, ARGUMENT, () -> court.strike(60, 0, -2, 10));
        Check.dueThrow("set(4)", court, ARGUMENT, () -> court.set(4));
        Check.dueThrow("match(2)", court, INDEX, () -> court.match(2));
        Check.dueThrow("match(-1)", court, INDEX, () -> court.match(-1));
        Check.dueThrow("flight(61, 0)", court, ARGUMENT, () -> court.flight(61, 0));
        Check.dueThrow("would(61, 0, -2, 6)", court, ARGUMENT, () -> court.would(61, 0, -2, 6));
        Check.dueThrow("advise(61)", court, ARGUMENT, () -> court.advise(61));
        if (rally || state == 6) {
            Check.dueThrow("serve(0, -2, 6)", court, STATE, () -> court.serve(0, -2, 6));
        }
        if (!rally) {
            Check.dueThrow("strike(8, 0, -2, 6)", court, STATE, () -> court.strike(8, 0, -2, 6));
            Check.dueThrow("leave()", court, STATE, court::leave);
            Check.dueThrow("let()", court, STATE, court::let);
        }
        if (state != 3) {
            Check.dueThrow("set(3)", court, STATE, () -> court.set(3));
            Check.dueThrow("set(5)", court, STATE, () -> court.set(5));
        }
    }

    private static void playToTheEnd(FivesCourt court, FivesCourt twin, int state) {
        for (int i = 0; i < 30; i++) {
            if (court.count(1) < 0 && court.count(7) < 0) {
                Check.due("serve() of twins", court.serve(0, -2, 6), twin.serve(0, -2, 6));
            }
            if (court.count(1) >= 0) {
                Check.due("leave() of twins", court.leave(), twin.leave());
            }
            if (court.count(6) == 1) {
                Check.due("set(5) of twins", court.set(5), twin.set(5));
            }
        }
        Check.dueSame("played on from the state " + state, Seen.of(court), Seen.of(twin));
    }

    /** The same run twice, once with refused calls ahead of each call: all answers are the same. */
    private static void refusedCallsInARun() {
        FivesCourt court = new FivesCourt();
        FivesCourt twin = new FivesCourt();
        int[][] rallies = {{0, -2, 6, 8, 0, -2, 9, 10, 0, -1, 3}, {0, 2, 9}, {-1, -2, 5, 8, 0, -2, 9}, {0, -2, 3}};
        for (int i = 0; i < 12; i++) {
            int[] run = rallies[i % rallies.length];
            refuseAll(court, 0);
            Check.due("serve()", court.serve(run[0], run[1], run[2]), twin.serve(run[0], run[1], run[2]));
            for (int k = 3; k < run.length; k += 4) {
                refuseAll(court, 1);
                Check.due("strike()", court.strike(run[k], run[k + 1], run[k + 2], run[k + 3]),
                        twin.strike(run[k], run[k + 1], run[k + 2], run[k + 3]));
            }
            refuseAll(court, 1);
            Check.due("leave()", court.leave(), twin.leave());
            Check.dueSame("behind a rally", Seen.of(court), Seen.of(twin));
        }
    }

    /** "(nothing is changed)": of flight(), end(), would() and advise(), and of what only tells. */
    private static void lookingChangesNothing() {
        for (int state : STATES) {
            FivesCourt court = inState(state);
            long digest = court.digest();
            for (int moments = 0; moments <= 60; moments++) {
                court.flight(moments, moments % 9);
                court.would(moments, 2, -1, 9);
                court.advise(moments);
                court.end(moments % 5);
                court.ball(moments % 6);
                court.told(moments % 2, moments % 4);
                court.count(moments % 9);
                court.mean();
                Check.due("digest() behind looks", court.digest(), digest);
            }
            FivesCourt twin = inState(state);
            Check.dueSame("looked at in the state " + state, Seen.of(court), Seen.of(twin));
            playToTheEnd(court, twin, state);
        }
    }

    // ---- "An object is used for at most 512 calls after it has been made"

    /** 512 calls of one rally, the ball 45 higher with each: the last ones still answer as the first. */
    private static void manyCalls() {
        FivesCourt court = new FivesCourt();
        court.serve(-1, -2, 5);
        for (int calls = 2; calls <= 508; calls++) {
            int climbs = calls - 2;
            int answer = court.strike(climbs == 0 ? 8 : 10, 0, -2, 9);
            if (answer != 0) {
                Check.due("the call " + calls, answer, 0);
            }
        }
        // 508 strokes, the last one at 15 + 45 * 506.
        Check.due("call 509: ball(2)", court.ball(2), 22785);
        Check.due("call 510: count(2)", court.count(2), 508);
        // It bounces in the moment 224, at 22785 + 9 * 224 - 112 * 223 = -175, then rises by 107, for 215 moments.
        Check.due("call 511: end(1)", court.end(1), 439);
        Check.due("call 512: leave()", court.leave(), 3);
    }
}
