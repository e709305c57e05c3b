/** Fives in a court with a buttress. */
public final class FivesCourt {
    private static final int COLUMNS = 12;
    private static final int ROWS = 30;
    private static final int BUTTRESS_LAST_COLUMN = 1;
    private static final int BUTTRESS_FIRST_ROW = 10;
    private static final int BUTTRESS_LAST_ROW = 12;
    private static final int LEDGE = 4;

    private static final int SERVE_COLUMN = 6;
    private static final int SERVE_ROW = 14;
    private static final int SERVE_HEIGHT = 3;

    private static final int WIDEST_WAY = 2;
    private static final int STEEPEST_RISE = 9;
    private static final int LATEST_STROKE = 60;

    private static final int FLYING = 0;
    private static final int DOWN = 1;
    private static final int OUT = 2;
    private static final int DEAD = 3;

    // In 512 calls no ball climbs above some 23,000, from where two bounces take
    // fewer than 1,000 moments: the bound only lets every flight's loop have an end.
    private static final int LONGEST_FLIGHT = 1000000;

    private static final int FULL_GAME = 12;
    private static final int GAMES_OF_MATCH = 3;

    private static final int RALLY_GOES_ON = 0;
    private static final int RALLY_WAS_LET = 1;
    private static final int RALLY_WON_BY_FIRST = 2;

    private static final int NO_SIDE = -1;
    private static final int NO_STROKE = -1;
    private static final int NO_BALL = -99;

    private static final int COUNTS = 9;
    private static final int TOLDS = 4;
    private static final int BALL_PARTS = 6;
    private static final int FLIGHT_PARTS = 9;
    private static final int END_PARTS = 5;

    private final Side first;
    private final Side second;
    private final Ball struck;
    private final Ball ended;
    // Kept for looking ahead, so that no call has to make a ball.
    private final Ball ahead;
    private final Ball tried;

    private int server;
    private boolean rallying;
    private int strokes;
    private int goal;
    private int matchWinner;

    private int wonRallies;
    private int wonStrokes;
    private int lets;
    private int wonGames;

    public FivesCourt() {
        first = new Side();
        second = new Side();
        struck = new Ball();
        ended = new Ball();
        ahead = new Ball();
        tried = new Ball();
        server = 0;
        goal = FULL_GAME;
        matchWinner = NO_SIDE;
    }

    // ---- playing

    public int serve(int across, int along, int rise) throws IllegalArgumentException, IllegalStateException {
        if (!isStroke(across, along, rise)) {
            throw new IllegalArgumentException("no such stroke");
        }
        if (rallying || isMatchOver()) {
            throw new IllegalStateException("nothing to serve");
        }
        struck.placeToServe();
        rallying = true;
        play(server, across, along, rise);
        return server;
    }

    public int strike(int moments, int across, int along, int rise)
            throws IllegalArgumentException, IllegalStateException {
        if (moments < 1 || moments > LATEST_STROKE || !isStroke(across, along, rise)) {
            throw new IllegalArgumentException("no such stroke");
        }
        if (!rallying) {
            throw new IllegalStateException("no rally goes on");
        }
        if (isEndedBy(moments)) {
            return winRally(winnerByFlight());
        }
        lookAhead(moments);
        if (ahead.fronts == 0) {
            replayRally();
            return RALLY_WAS_LET;
        }
        struck.become(ahead);
        play(sideToStrike(), across, along, rise);
        return RALLY_GOES_ON;
    }

    public int leave() throws IllegalStateException {
        if (!rallying) {
            throw new IllegalStateException("no rally goes on");
        }
        return winRally(winnerByFlight());
    }

    public int let() throws IllegalStateException {
        if (!rallying) {
            throw new IllegalStateException("no rally goes on");
        }
        int played = strokes;
        replayRally();
        return played;
    }

    public int set(int more) throws IllegalArgumentException, IllegalStateException {
        if (more != 3 && more != 5) {
            throw new IllegalArgumentException("set to 3 or 5");
        }
        if (!canBeSet()) {
            throw new IllegalStateException("the game can not be set");
        }
        goal = first.points + more;
        return goal;
    }

    public int match(int side) throws IndexOutOfBoundsException {
        if (!isSide(side)) {
            throw new IndexOutOfBoundsException("no such side");
        }
        int played = first.games + second.games;
        closeRally();
        beginGame();
        first.beginMatch();
        second.beginMatch();
        matchWinner = NO_SIDE;
        server = side;
        return played;
    }

    // ---- what there is

    public int ball(int what) throws IndexOutOfBoundsException {
        if (what < 0 || what >= BALL_PARTS) {
            throw new IndexOutOfBoundsException("no such part of the ball");
        }
        return rallying ? struck.part(what) : 0;
    }

    public int told(int side, int what) throws IndexOutOfBoundsException {
        if (!isSide(side) || what < 0 || what >= TOLDS) {
            throw new IndexOutOfBoundsException("nothing told of that");
        }
        return sideOf(side).part(what);
    }

    public int count(int what) throws IndexOutOfBoundsException {
        switch (what) {
            case 0:
                return server;
            case 1:
                return rallying ? sideToStrike() : NO_SIDE;
            case 2:
                return strokes;
            case 3:
                return wonRallies;
            case 4:
                return lets;
            case 5:
                return goal;
            case 6:
                return canBeSet() ? 1 : 0;
            case 7:
                return matchWinner;
            case 8:
                return wonGames;
            default:
                throw new IndexOutOfBoundsException("no such count");
        }
    }

    // ---- flights

    public int flight(int moments, int what) throws IllegalArgumentException, IndexOutOfBoundsException {
        if (!isLookAhead(moments)) {
            throw new IllegalArgumentException("0 to 60 moments");
        }
        if (what < 0 || what >= FLIGHT_PARTS) {
            throw new IndexOutOfBoundsException("no such part of the flight");
        }
        if (!rallying || isEndedBy(moments)) {
            return NO_BALL;
        }
        lookAhead(moments);
        return ahead.part(what);
    }

    public int end(int what) throws IndexOutOfBoundsException {
        if (what < 0 || what >= END_PARTS) {
            throw new IndexOutOfBoundsException("no such part of the end");
        }
        return rallying ? ended.endPart(what) : 0;
    }

    public int would(int moments, int across, int along, int rise) throws IllegalArgumentException {
        if (!isLookAhead(moments) || !isStroke(across, along, rise)) {
            throw new IllegalArgumentException("no such stroke");
        }
        if (!placeAhead(moments)) {
            return NO_STROKE;
        }
        tryStroke(across, along, rise, LONGEST_FLIGHT);
        return tried.ending;
    }

    public int advise(int moments) throws IllegalArgumentException {
        if (!isLookAhead(moments)) {
            throw new IllegalArgumentException("0 to 60 moments");
        }
        if (!placeAhead(moments)) {
            return NO_STROKE;
        }
        return shortestDeadStroke();
    }

    public double mean() {
        if (wonRallies == 0) {
            return 0.0;
        }
        return (double) wonStrokes / (double) wonRallies;
    }

    public long digest() {
        long d = 1801;
        for (int what = 0; what < COUNTS; what++) {
            d = d * 31 + count(what);
        }
        for (int side = 0; side < 2; side++) {
            for (int what = 0; what < TOLDS; what++) {
                d = d * 31 + told(side, what);
            }
        }
        for (int what = 0; what < BALL_PARTS; what++) {
            d = d * 31 + ball(what);
        }
        for (int what = 0; what < END_PARTS; what++) {
            d = d * 31 + end(what);
        }
        return d;
    }

    // ---- what an argument may be

    private static boolean isStroke(int across, int along, int rise) {
        return isWay(across) && isWay(along) && rise >= 0 && rise <= STEEPEST_RISE;
    }

    private static boolean isWay(int way) {
        return way >= -WIDEST_WAY && way <= WIDEST_WAY;
    }

    private static boolean isSide(int side) {
        return side == 0 || side == 1;
    }

    private static boolean isLookAhead(int moments) {
        return moments >= 0 && moments <= LATEST_STROKE;
    }

    // ---- sides, points, games

    private Side sideOf(int side) {
        return side == 0 ? first : second;
    }

    private static int otherSide(int side) {
        return 1 - side;
    }

    // The sides strike by turns, so the strokes so far tell whose turn it is.
    private int sideToStrike() {
        return strokes % 2 == 0 ? server : otherSide(server);
    }

    private int winnerByFlight() {
        int turn = sideToStrike();
        return ended.ending == DEAD ? otherSide(turn) : turn;
    }

    private int winRally(int winner) {
        wonRallies++;
        wonStrokes += strokes;
        sideOf(winner).rallies++;
        closeRally();
        if (winner == server) {
            winPoint();
        } else {
            server = winner;
        }
        return RALLY_WON_BY_FIRST + winner;
    }

    private void winPoint() {
        Side side = sideOf(server);
        side.points++;
        if (side.points >= goal) {
            winGame(side);
        }
    }

    private void winGame(Side side) {
        side.games++;
        wonGames++;
        beginGame();
        if (side.games >= GAMES_OF_MATCH) {
            matchWinner = server;
        }
    }

    private void beginGame() {
        first.points = 0;
        second.points = 0;
        goal = FULL_GAME;
    }

    private void replayRally() {
        lets++;
        closeRally();
    }

    private void closeRally() {
        rallying = false;
        strokes = 0;
    }

    private boolean isMatchOver() {
        return matchWinner != NO_SIDE;
    }

    // A game that is set goes to 13 at the least, so a goal of 12 says that it is not.
    private boolean canBeSet() {
        return !rallying && goal == FULL_GAME && first.points == second.points
                && (first.points == 10 || first.points == 11);
    }

    // ---- strokes and their flights

    private void play(int side, int across, int along, int rise) {
        struck.launch(across, along, rise);
        ended.become(struck);
        ended.fly(LONGEST_FLIGHT);
        strokes++;
        sideOf(side).strokes++;
    }

    private boolean isEndedBy(int moments) {
        return ended.moments <= moments;
    }

    private void lookAhead(int moments) {
        ahead.become(struck);
        ahead.fly(moments);
    }

    // False if no stroke would come then.
    private boolean placeAhead(int moments) {
        if (!rallying) {
            ahead.placeToServe();
            return moments == 0 && !isMatchOver();
        }
        if (moments == 0 || isEndedBy(moments)) {
            return false;
        }
        lookAhead(moments);
        return ahead.fronts > 0;
    }

    private void tryStroke(int across, int along, int rise, int longest) {
        tried.become(ahead);
        tried.launch(across, along, rise);
        tried.fly(longest);
    }

    // The strokes come by their numbers, and a later one has to be shorter than the
    // best: so of several the smallest stays, and no flight is followed for longer.
    private int shortestDeadStroke() {
        int best = NO_STROKE;
        int longest = LONGEST_FLIGHT;
        for (int across = -WIDEST_WAY; across <= WIDEST_WAY; across++) {
            for (int along = -WIDEST_WAY; along <= WIDEST_WAY; along++) {
                for (int rise = 0; rise <= STEEPEST_RISE; rise++) {
                    tryStroke(across, along, rise, longest);
                    if (tried.ending == DEAD) {
                        best = 50 * (across + 2) + 10 * (along + 2) + rise;
                        longest = tried.moments - 1;
                    }
                }
            }
        }
        return best;
    }

    private static final class Side {
        private int points;
        private int games;
        private int rallies;
        private int strokes;

        private int part(int what) {
            switch (what) {
                case 0:
                    return points;
                case 1:
                    return games;
                case 2:
                    return rallies;
                default:
                    return strokes;
            }
        }

        private void beginMatch() {
            games = 0;
            rallies = 0;
            strokes = 0;
        }
    }

    private static final class Ball {
        private int column;
        private int row;
        private int height;
        private int across;
        private int along;
        private int rise;
        private int fronts;
        private int bounces;
        private int touches;
        private int moments;
        private int ending;

        private void placeToServe() {
            column = SERVE_COLUMN;
            row = SERVE_ROW;
            height = SERVE_HEIGHT;
        }

        private void become(Ball other) {
            column = other.column;
            row = other.row;
            height = other.height;
            across = other.across;
            along = other.along;
            rise = other.rise;
            fronts = other.fronts;
            bounces = other.bounces;
            touches = other.touches;
            moments = other.moments;
            ending = other.ending;
        }

        private void launch(int newAcross, int newAlong, int newRise) {
            height = Math.max(height, 1);
            across = newAcross;
            along = newAlong;
            rise = newRise;
            fronts = 0;
            bounces = 0;
            touches = 0;
            moments = 0;
            ending = FLYING;
        }

        private void fly(int longest) {
            for (int i = 0; i < longest && ending == FLYING; i++) {
                passMoment();
            }
        }

        private void passMoment() {
            moments++;
            goAcross();
            goAlong();
            if (ending == FLYING) {
                goUpOrDown();
            }
        }

        private void goAcross() {
            int columns = Math.abs(across);
            for (int i = 0; i < columns; i++) {
                int next = column + Integer.signum(across);
                if (next < 0 || next >= COLUMNS || isButtress(next, row)) {
                    across = -across;
                    touches++;
                } else {
                    column = next;
                }
            }
        }

        private void goAlong() {
            int rows = Math.abs(along);
            for (int i = 0; i < rows && ending == FLYING; i++) {
                goOneRow();
            }
        }

        private void goOneRow() {
            int next = row + Integer.signum(along);
            if (next < 0) {
                touchFront();
            } else if (next >= ROWS) {
                ending = bounces == 0 ? OUT : DEAD;
            } else if (isButtress(column, next)) {
                along = -along;
                touches++;
            } else {
                row = next;
            }
        }

        private void touchFront() {
            along = -along;
            fronts++;
            if (height < LEDGE) {
                ending = DOWN;
            }
        }

        private void goUpOrDown() {
            height += rise;
            rise--;
            if (height <= 0 && rise < 0) {
                bounce();
            }
        }

        private void bounce() {
            height = 0;
            rise = -rise / 2;
            bounces++;
            if (fronts == 0) {
                ending = DOWN;
            } else if (bounces == 2) {
                ending = DEAD;
            }
        }

        private static boolean isButtress(int column, int row) {
            return column <= BUTTRESS_LAST_COLUMN && row >= BUTTRESS_FIRST_ROW && row <= BUTTRESS_LAST_ROW;
        }

        private int part(int what) {
            switch (what) {
                case 0:
                    return column;
                case 1:
                    return row;
                case 2:
                    return height;
                case 3:
                    return across;
                case 4:
                    return along;
                case 5:
                    return rise;
                case 6:
                    return fronts;
                case 7:
                    return bounces;
                default:
                    return touches;
            }
        }

        private int endPart(int what) {
            switch (what) {
                case 0:
                    return ending;
                case 1:
                    return moments;
                case 2:
                    return fronts;
                case 3:
                    return bounces;
                default:
                    return touches;
            }
        }
    }
}
