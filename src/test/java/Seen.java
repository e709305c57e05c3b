import java.util.ArrayList;
import java.util.List;

/** All that a court tells, a line each, so that two looks at it can be compared. */
final class Seen {
    private Seen() {
    }

    static List<String> of(FivesCourt court) {
        List<String> lines = new ArrayList<>();
        lines.add("digest() " + court.digest());
        lines.add("mean() " + court.mean());
        for (int what = 0; what < 9; what++) {
            lines.add("count(" + what + ") " + court.count(what));
        }
        for (int what = 0; what < 8; what++) {
            lines.add("told(" + what / 4 + ", " + what % 4 + ") " + court.told(what / 4, what % 4));
        }
        for (int what = 0; what < 6; what++) {
            lines.add("ball(" + what + ") " + court.ball(what));
        }
        for (int what = 0; what < 5; what++) {
            lines.add("end(" + what + ") " + court.end(what));
        }
        for (int moments = 0; moments <= 60; moments++) {
            for (int what = 0; what < 9; what++) {
                lines.add("flight(" + moments + ", " + what + ") " + court.flight(moments, what));
            }
            lines.add("would(" + moments + ", 0, -2, 6) " + court.would(moments, 0, -2, 6));
        }
        for (int moments = 0; moments <= 60; moments += 10) {
            lines.add("advise(" + moments + ") " + court.advise(moments));
        }
        return lines;
    }
}
