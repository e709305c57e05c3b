import java.util.ArrayList;
import java.util.List;

/**
 * The document once more, told another way and with no thrift: a flight is the list of
 * all its moments, and every question is answered from the whole list.
 */
final class CourtModel {
    /** What is known of a moment: 0-5 as ball() has it, 6 front touches, 7 bounces, 8 other touches. */
    static final class Flight {
        final List<int[]> moments = new ArrayList<>();
        int kind;
        int length;
        int[] last;

        boolean isOverBy(int moment) {
            return moment >= length;
        }
    }

    private static final boolean[][] FREE = new boolean[12][30];

    static {
        for (int column = 0; column < 12; column++) {
            for (int row = 0; row < 30; row++) {
                FREE[column][row] = column > 1 || row < 10 || row > 12;
            }
        }
    }

    int server;
    int goal = 12;
    boolean set;
    int overBy = -1;
    int[] points = new int[2];
    int[] games = new int[2];
    int[] rallies = new int[2];
    int[] strokes = new int[2];
    int lets;
    int allGames;
    final List<Integer> wonLengths = new ArrayList<>();
    /** The flights of this rally, empty if none goes on. */
    final List<Flight> rally = new ArrayList<>();

    static Flight fly(int column, int row, int height, int across, int along, int rise) {
        Flight flight = new Flight();
        int[] now = {column, row, height, across, along, rise, 0, 0, 0};
        while (flight.kind == 0) {
            flight.moments.add(now.clone());
            flight.kind = step(now);
        }
        flight.length = flight.moments.size();
        flight.last = now;
        return flight;
    }

    private static int step(int[] b) {
        for (int left = Math.abs(b[3]); left > 0; left--) {
            int to = b[0] + (b[3] > 0 ? 1 : -1);
            boolean free = to >= 0 && to <= 11 && FREE[to][b[1]];
            if (free) {
                b[0] = to;
            } else {
                b[3] = -b[3];
                b[8] += 1;
            }
        }
        for (int left = Math.abs(b[4]); left > 0; left--) {
            int to = b[1] + (b[4] > 0 ? 1 : -1);
            if (to == 30) {
                return b[7] > 0 ? 3 : 2;
            }
            if (to == -1) {
                b[4] = -b[4];
                b[6] += 1;
                if (b[2] < 4) {
                    return 1;
                }
            } else if (FREE[b[0]][to]) {
                b[1] = to;
            } else {
                b[4] = -b[4];
                b[8] += 1;
            }
        }
        b[2] += b[5];
        b[5] -= 1;
        if (b[2] <= 0 && b[5] < 0) {
            b[2] = 0;
            b[5] = Math.abs(b[5]) / 2;
            b[7] += 1;
            if (b[6] == 0) {
                return 1;
            }
            if (b[7] == 2) {
                return 3;
            }
        }
        return 0;
    }

    private static void argument(boolean good) {
        if (!good) {
            throw new IllegalArgumentException();
        }
    }

    private static void state(boolean good) {
        if (!good) {
            throw new IllegalStateException();
        }
    }

    private static void index(int what, int end) {
        if (what < 0 || what >= end) {
            throw new IndexOutOfBoundsException();
        }
    }

    private static boolean stroke(int across, int along, int rise) {
        return across >= -2 && across <= 2 && along >= -2 && along <= 2 && rise >= 0 && rise <= 9;
    }

    private Flight latest() {
        return rally.isEmpty() ? null : rally.get(rally.size() - 1);
    }

    private int turn() {
        return (server + rally.size()) % 2;
    }

    int serve(int across, int along, int rise) {
        argument(stroke(across, along, rise));
        state(rally.isEmpty() && overBy < 0);
        rally.add(fly(6, 14, 3, across, along, rise));
        strokes[server]++;
        return server;
    }

    int strike(int moments, int across, int along, int rise) {
        argument(moments >= 1 && moments <= 60 && stroke(across, along, rise));
        state(!rally.isEmpty());
        if (latest().isOverBy(moments)) {
            return won();
        }
        int[] at = latest().moments.get(moments);
        if (at[6] == 0) {
            let();
            return 1;
        }
        strokes[turn()]++;
        rally.add(fly(at[0], at[1], at[2] < 1 ? 1 : at[2], across, along, rise));
        return 0;
    }

    int leave() {
        state(!rally.isEmpty());
        return won();
    }

    private int won() {
        int winner = latest().kind == 3 ? 1 - turn() : turn();
        wonLengths.add(rally.size());
        rally.clear();
        rallies[winner]++;
        if (winner != server) {
            server = winner;
            return 2 + winner;
        }
        points[winner]++;
        if (points[winner] == goal) {
            points = new int[2];
            goal = 12;
            set = false;
            allGames++;
            games[winner]++;
            overBy = games[winner] == 3 ? winner : -1;
        }
        return 2 + winner;
    }

    int let() {
        state(!rally.isEmpty());
        int had = rally.size();
        rally.clear();
        lets++;
        return had;
    }

    private boolean settable() {
        return rally.isEmpty() && !set && points[0] == points[1] && points[0] / 2 == 5;
    }

    int set(int more) {
        argument(more == 3 || more == 5);
        state(settable());
        set = true;
        goal = points[1] + more;
        return goal;
    }

    int match(int side) {
        index(side, 2);
        int had = games[0] + games[1];
        points = new int[2];
        games = new int[2];
        rallies = new int[2];
        strokes = new int[2];
        goal = 12;
        set = false;
        overBy = -1;
        rally.clear();
        server = side;
        return had;
    }

    int ball(int what) {
        index(what, 6);
        return rally.isEmpty() ? 0 : latest().moments.get(0)[what];
    }

    int told(int side, int what) {
        index(side, 2);
        index(what, 4);
        return new int[][] {points, games, rallies, strokes}[what][side];
    }

    int count(int what) {
        index(what, 9);
        int turn = rally.isEmpty() ? -1 : turn();
        int[] all = {server, turn, rally.size(), wonLengths.size(), lets, goal, settable() ? 1 : 0, overBy, allGames};
        return all[what];
    }

    int flight(int moments, int what) {
        argument(moments >= 0 && moments <= 60);
        index(what, 9);
        if (rally.isEmpty() || latest().isOverBy(moments)) {
            return -99;
        }
        return latest().moments.get(moments)[what];
    }

    int end(int what) {
        index(what, 5);
        if (rally.isEmpty()) {
            return 0;
        }
        Flight f = latest();
        return new int[] {f.kind, f.length, f.last[6], f.last[7], f.last[8]}[what];
    }

    private Flight tried(int moments, int across, int along, int rise) {
        if (rally.isEmpty()) {
            return moments == 0 && overBy < 0 ? fly(6, 14, 3, across, along, rise) : null;
        }
        if (moments == 0 || latest().isOverBy(moments) || latest().moments.get(moments)[6] == 0) {
            return null;
        }
        int[] at = latest().moments.get(moments);
        return fly(at[0], at[1], Math.max(1, at[2]), across, along, rise);
    }

    int would(int moments, int across, int along, int rise) {
        argument(moments >= 0 && moments <= 60 && stroke(across, along, rise));
        Flight flight = tried(moments, across, along, rise);
        return flight == null ? -1 : flight.kind;
    }

    int advise(int moments) {
        argument(moments >= 0 && moments <= 60);
        int best = -1;
        int shortest = 0;
        for (int code = 249; code >= 0; code--) {
            Flight flight = tried(moments, code / 50 - 2, code / 10 % 5 - 2, code % 10);
            if (flight != null && flight.kind == 3 && (best < 0 || flight.length <= shortest)) {
                best = code;
                shortest = flight.length;
            }
        }
        return best;
    }

    double mean() {
        int sum = 0;
        for (int length : wonLengths) {
            sum += length;
        }
        return wonLengths.isEmpty() ? 0 : sum / (double) wonLengths.size();
    }

    long digest() {
        long d = 1801;
        for (int i = 0; i < 28; i++) {
            int x = i < 9 ? count(i) : i < 17 ? told((i - 9) / 4, (i - 9) % 4) : i < 23 ? ball(i - 17) : end(i - 23);
            d = 31 * d + x;
        }
        return d;
    }
}
