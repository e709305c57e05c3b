/**
 * Each sentence of the document's Terms that names a boundary case, by a test of its own:
 * what is just inside of it, and what is just outside. The sentence stands ahead of its test.
 */
public final class TermsEdgesTest extends CourtCase {
    private TermsEdgesTest() {
    }

    public static void main(String[] args) {
        court();
        buttress();
        ball();
        momentAcross();
        momentAlong();
        momentUpOrDown();
        endOfFlight();
        rally();
        points();
        tightGames();
        Check.finish("TermsEdgesTest");
    }

    // ---- Court

    private static void court() {
        firstColumn();
        lastColumn();
        firstRow();
        lastRow();
        lastRowByTwos();
    }

    /** "It has 12 columns, 0 to 11 .. beyond the columns 0 and 11 are walls": the column 0 is reached, -1 is not. */
    private static void firstColumn() {
        FivesCourt court = played(-1, -2, 6);
        dueFlight(court, 6, 0, 2, 24, -1, -2, 0, 0, 0, 0);
        dueFlight(court, 7, 0, 0, 24, 1, -2, -1, 0, 0, 1);
        dueFlight(court, 8, 1, 1, 23, 1, 2, -2, 1, 0, 1);
    }

    /** The same: the column 11 is reached, 12 is not. */
    private static void lastColumn() {
        FivesCourt court = played(1, -2, 6);
        dueFlight(court, 5, 11, 4, 23, 1, -2, 1, 0, 0, 0);
        dueFlight(court, 6, 11, 2, 24, -1, -2, 0, 0, 0, 1);
        dueFlight(court, 7, 10, 0, 24, -1, -2, -1, 0, 0, 1);
    }

    /** "30 rows, 0 to 29; ahead of the row 0 is the front wall": the row 0 is reached, -1 is not. */
    private static void firstRow() {
        FivesCourt court = played(0, -1, 9);
        dueFlight(court, 13, 6, 1, 42, 0, -1, -4, 0, 0, 0);
        dueFlight(court, 14, 6, 0, 38, 0, -1, -5, 0, 0, 0);
        dueFlight(court, 15, 6, 0, 33, 0, 1, -6, 1, 0, 0);
        dueFlight(court, 16, 6, 1, 27, 0, 1, -7, 1, 0, 0);
    }

    /** "behind the row 29 it is open": the row 29 is in the court, 30 is not. */
    private static void lastRow() {
        FivesCourt court = played(0, 1, 9);
        dueFlight(court, 15, 6, 29, 33, 0, 1, -6, 0, 0, 0);
        dueNoFlight(court, 16);
        dueEnd("behind the row 29", court, 2, 16, 0, 0, 0);
    }

    /** The same by twos, from the row 28 (the second one is out) and from the row 29 (the first one is). */
    private static void lastRowByTwos() {
        FivesCourt even = played(0, 2, 9);
        dueFlight(even, 7, 6, 28, 45, 0, 2, 2, 0, 0, 0);
        dueNoFlight(even, 8);
        dueEnd("from the row 28", even, 2, 8, 0, 0, 0);
        FivesCourt odd = played(-1, -2, 6, 9, 0, 2, 9);
        dueFlight(odd, 13, 2, 29, 60, 0, 2, -4, 0, 0, 0);
        dueNoFlight(odd, 14);
        dueEnd("from the row 29", odd, 2, 14, 0, 0, 0);
    }

    // ---- The buttress

    private static void buttress() {
        buttressAheadOfTheRow10();
        buttressAtTheRows10To12();
        buttressBehindTheRow12();
        buttressAtTheColumns0And1();
        buttressFromBehind();
    }

    /** "The buttress stands on .. the rows 10 to 12": at the row 9 a ball goes across from the column 2 to 0. */
    private static void buttressAheadOfTheRow10() {
        FivesCourt court = played(-2, -2, 6);
        dueFlight(court, 12, 2, 9, 9, -2, 2, -6, 1, 0, 2);
        // At the column 0 it comes to the buttress along, and goes back.
        dueFlight(court, 13, 0, 8, 3, -2, -2, -7, 1, 0, 3);
    }

    /** The same: at each of the rows 10, 11 and 12 it does not come across to the column 1. */
    private static void buttressAtTheRows10To12() {
        FivesCourt row10 = played(-2, -2, 6);
        dueFlight(row10, 2, 2, 10, 14, -2, -2, 4, 0, 0, 0);
        dueFlight(row10, 3, 3, 8, 18, 2, -2, 3, 0, 0, 1);
        FivesCourt row11 = played(1, -2, 6, 13, -2, 0, 9);
        dueFlight(row11, 1, 2, 11, 12, -2, 0, 8, 0, 0, 0);
        dueFlight(row11, 2, 3, 11, 20, 2, 0, 7, 0, 0, 1);
        FivesCourt row12 = played(-2, -1, 9);
        dueFlight(row12, 2, 2, 12, 20, -2, -1, 7, 0, 0, 0);
        dueFlight(row12, 3, 3, 11, 27, 2, -1, 6, 0, 0, 1);
    }

    /** The same: at the row 13 it goes across to the column 0 again. */
    private static void buttressBehindTheRow12() {
        FivesCourt court = played(0, -2, 6, 14, -2, 0, 9);
        dueFlight(court, 2, 2, 13, 18, -2, 0, 7, 0, 0, 0);
        dueFlight(court, 3, 0, 13, 25, -2, 0, 6, 0, 0, 0);
        dueFlight(court, 4, 1, 13, 31, 2, 0, 5, 0, 0, 1);
    }

    /** "The buttress stands on the columns 0 and 1": along these a ball turns at the row 9, along 2 it goes on. */
    private static void buttressAtTheColumns0And1() {
        FivesCourt column0 = played(0, -2, 5, 8, -1, -2, 2);
        dueFlight(column0, 5, 1, 8, 15, -1, 2, -3, 1, 0, 0);
        dueFlight(column0, 6, 0, 9, 12, -1, -2, -4, 1, 0, 1);
        FivesCourt column1 = played(-1, -2, 6, 8, 0, -2, 5);
        dueFlight(column1, 5, 1, 8, 38, 0, 2, 0, 1, 0, 0);
        dueFlight(column1, 6, 1, 9, 38, 0, -2, -1, 1, 0, 1);
        FivesCourt column2 = played(-1, -2, 6, 9, 0, 2, 9);
        dueFlight(column2, 3, 2, 9, 45, 0, 2, 6, 0, 0, 0);
        dueFlight(column2, 4, 2, 11, 51, 0, 2, 5, 0, 0, 0);
        dueFlight(column2, 5, 2, 13, 56, 0, 2, 4, 0, 0, 0);
    }

    /** The same from behind: at the row 13 a ball turns along the columns 1 and 0. */
    private static void buttressFromBehind() {
        FivesCourt column1 = played(1, -2, 6, 14, -2, -1, 9);
        dueBall("behind the buttress", column1, 3, 13, 1, -2, -1, 9);
        dueFlight(column1, 1, 1, 13, 10, -2, 1, 8, 0, 0, 1);
        FivesCourt column0 = played(0, -2, 6, 15, -2, -1, 9);
        dueFlight(column0, 2, 2, 13, 21, -2, -1, 7, 0, 0, 0);
        dueFlight(column0, 3, 0, 13, 28, -2, 1, 6, 0, 0, 1);
    }

    // ---- Ball

    /** "it goes so many columns across, -2 to 2, and so many rows along, -2 to 2, in a moment". */
    private static void ball() {
        for (int way = -2; way <= 2; way++) {
            FivesCourt across = played(way, 0, 9);
            dueFlight(across, 1, 6 + way, 14, 12, way, 0, 8, 0, 0, 0);
            FivesCourt along = played(0, way, 9);
            dueFlight(along, 1, 6, 14 + way, 12, 0, way, 8, 0, 0, 0);
        }
    }

    // ---- A moment, 1: across

    private static void momentAcross() {
        acrossTouchIsTheLastColumn();
        acrossTouchIsTheFirstColumn();
        acrossComesAheadOfAlong();
    }

    /** "the ball stays where it is, .. that is a touch, and one of the columns of this moment". */
    private static void acrossTouchIsTheLastColumn() {
        FivesCourt court = played(2, -2, 6);
        dueFlight(court, 2, 10, 10, 14, 2, -2, 4, 0, 0, 0);
        dueFlight(court, 3, 11, 8, 18, -2, -2, 3, 0, 0, 1);
        dueFlight(court, 4, 9, 6, 21, -2, -2, 2, 0, 0, 1);
    }

    /** "goes the other way across from then on (also for what is left of this moment)". */
    private static void acrossTouchIsTheFirstColumn() {
        FivesCourt wall = played(0, -2, 6, 14, -2, 0, 9);
        dueFlight(wall, 3, 0, 13, 25, -2, 0, 6, 0, 0, 0);
        dueFlight(wall, 4, 1, 13, 31, 2, 0, 5, 0, 0, 1);
        dueFlight(wall, 5, 3, 13, 36, 2, 0, 4, 0, 0, 1);
        FivesCourt otherWall = played(-2, -2, 7);
        dueFlight(otherWall, 7, 11, 0, 31, 2, -2, 0, 0, 0, 1);
        dueFlight(otherWall, 8, 10, 1, 31, -2, 2, -1, 1, 0, 2);
        FivesCourt buttress = played(1, -2, 6, 13, -2, 0, 9);
        dueFlight(buttress, 1, 2, 11, 12, -2, 0, 8, 0, 0, 0);
        dueFlight(buttress, 2, 3, 11, 20, 2, 0, 7, 0, 0, 1);
        dueFlight(buttress, 3, 5, 11, 27, 2, 0, 6, 0, 0, 1);
    }

    /** "in the order of the steps": across at the row 9 and then along to the buttress, both in one moment. */
    private static void acrossComesAheadOfAlong() {
        FivesCourt court = played(1, -2, 6, 14, -1, -1, 9);
        dueFlight(court, 23, 0, 9, 12, -1, 1, 2, 1, 1, 2);
        dueFlight(court, 24, 0, 9, 14, 1, -1, 1, 1, 1, 4);
        FivesCourt corner = played(-2, -2, 6);
        dueFlight(corner, 12, 2, 9, 9, -2, 2, -6, 1, 0, 2);
        dueFlight(corner, 13, 0, 8, 3, -2, -2, -7, 1, 0, 3);
    }

    // ---- A moment, 2: along

    private static void momentAlong() {
        alongTouchIsOneOfTheRows();
        frontTouchIsOneOfTheRows();
        frontTouchIsAtTheHeightThen();
        outEndsTheMoment();
    }

    /** "likewise: in the buttress it stays, and goes the other way along, a touch": the second row, or the first. */
    private static void alongTouchIsOneOfTheRows() {
        FivesCourt second = played(-1, -2, 6, 8, 0, -2, 5);
        dueFlight(second, 5, 1, 8, 38, 0, 2, 0, 1, 0, 0);
        dueFlight(second, 6, 1, 9, 38, 0, -2, -1, 1, 0, 1);
        dueFlight(second, 7, 1, 7, 37, 0, -2, -2, 1, 0, 1);
        FivesCourt first = played(-1, -2, 6, 8, 0, 2, 5);
        dueFlight(first, 4, 1, 9, 37, 0, 2, 1, 0, 0, 0);
        dueFlight(first, 5, 1, 8, 38, 0, -2, 0, 0, 0, 1);
        dueFlight(first, 6, 1, 6, 38, 0, -2, -1, 0, 0, 1);
    }

    /** "if the next row is the front wall, it stays, and goes the other way along": the second row, or the first. */
    private static void frontTouchIsOneOfTheRows() {
        FivesCourt second = played(0, -2, 6, 8, 0, -2, 0);
        dueFlight(second, 0, 6, 1, 23, 0, -2, 0, 0, 0, 0);
        dueFlight(second, 1, 6, 0, 23, 0, 2, -1, 1, 0, 0);
        dueFlight(second, 2, 6, 2, 22, 0, 2, -2, 1, 0, 0);
        FivesCourt first = played(0, -2, 6);
        dueFlight(first, 7, 6, 0, 24, 0, -2, -1, 0, 0, 0);
        dueFlight(first, 8, 6, 1, 23, 0, 2, -2, 1, 0, 0);
        dueFlight(first, 9, 6, 3, 21, 0, 2, -3, 1, 0, 0);
    }

    /** "that is a front touch, at its height then": ahead of the step 3, falling from 4 and rising from 3. */
    private static void frontTouchIsAtTheHeightThen() {
        FivesCourt falling = played(0, -2, 6, 14, 0, -2, 3);
        dueFlight(falling, 6, 6, 1, 4, 0, -2, -3, 0, 0, 0);
        dueFlight(falling, 7, 6, 0, 1, 0, 2, -4, 1, 0, 0);
        FivesCourt rising = played(0, -2, 5, 8, -1, -2, 2);
        dueFlight(rising, 10, 3, 1, 3, 1, -2, 2, 1, 1, 2);
        dueNoFlight(rising, 11);
        dueEnd("rising from 3", rising, 1, 11, 2, 1, 2);
    }

    /** "it is out, and the moment is over": no bounce behind that, though the ball falls to 0 in this moment. */
    private static void outEndsTheMoment() {
        FivesCourt first = played(0, 1, 7);
        dueFlight(first, 15, 6, 29, 3, 0, 1, -8, 0, 0, 0);
        dueEnd("out by the first row", first, 2, 16, 0, 0, 0);
        FivesCourt second = played(0, 2, 3);
        dueFlight(second, 7, 6, 28, 3, 0, 2, -4, 0, 0, 0);
        dueEnd("out by the second row", second, 2, 8, 0, 0, 0);
        FivesCourt dead = played(0, -2, 6);
        dueFlight(dead, 22, 6, 29, 4, 0, 2, -4, 1, 1, 0);
        dueEnd("out behind a bounce", dead, 3, 23, 1, 1, 0);
    }

    // ---- A moment, 3: up or down

    private static void momentUpOrDown() {
        heightAheadOfRise();
        bounceAtNought();
        bounceBelowNought();
        noBounceAtOne();
        noBounceOfARisingBall();
        halfOfTheRise();
    }

    /** "Its height is more by its rise, and its rise is 1 less": by the rise as it was. */
    private static void heightAheadOfRise() {
        FivesCourt court = played(0, -2, 6);
        dueFlight(court, 1, 6, 12, 9, 0, -2, 5, 0, 0, 0);
        dueFlight(court, 6, 6, 2, 24, 0, -2, 0, 0, 0, 0);
        dueFlight(court, 7, 6, 0, 24, 0, -2, -1, 0, 0, 0);
        dueFlight(court, 8, 6, 1, 23, 0, 2, -2, 1, 0, 0);
    }

    /** "If the height is 0 or less then": from 9, falling by 9, it is just 0. */
    private static void bounceAtNought() {
        FivesCourt court = played(0, -2, 9, 12, 0, -1, 0);
        dueFlight(court, 9, 6, 0, 9, 0, -1, -9, 0, 0, 0);
        dueFlight(court, 10, 6, 0, 0, 0, 1, 5, 1, 1, 0);
        dueEnd("a serve of 3, 3, 2, 0", played(0, 0, 0), 1, 3, 0, 1, 0);
    }

    /** "it bounces: the height is 0", also if it would be less: -4 here. */
    private static void bounceBelowNought() {
        FivesCourt court = played(0, -2, 6);
        dueFlight(court, 13, 6, 11, 3, 0, 2, -7, 1, 0, 0);
        dueFlight(court, 14, 6, 13, 0, 0, 2, 4, 1, 1, 0);
        dueFlight(court, 15, 6, 15, 4, 0, 2, 3, 1, 1, 0);
    }

    /** "0 or less": at 1 it does not bounce yet. */
    private static void noBounceAtOne() {
        FivesCourt serve = played(0, 0, 1);
        dueFlight(serve, 4, 6, 14, 1, 0, 0, -3, 0, 0, 0);
        dueEnd("a serve of 3, 4, 4, 3, 1", serve, 1, 5, 0, 1, 0);
        FivesCourt stroke = played(0, -2, 9, 8, 0, -1, 9);
        dueFlight(stroke, 23, 6, 21, 1, 0, 1, -14, 1, 0, 0);
        dueFlight(stroke, 24, 6, 22, 0, 0, 1, 7, 1, 1, 0);
    }

    /** "and the rise (as it is now) less than 0": behind a bounce a ball that rises from 0 does not bounce. */
    private static void noBounceOfARisingBall() {
        FivesCourt court = played(0, -2, 6, 12, 0, -2, 1);
        // From 9: rows 9 to 1 in 4 moments, the front wall in the fifth, at 9 + 4 - 6 = 7.
        dueFlight(court, 5, 6, 0, 4, 0, 2, -4, 1, 0, 0);
        dueFlight(court, 6, 6, 2, 0, 0, 2, 2, 1, 1, 0);
        dueFlight(court, 7, 6, 4, 2, 0, 2, 1, 1, 1, 0);
        dueFlight(court, 8, 6, 6, 3, 0, 2, 0, 1, 1, 0);
        dueFlight(court, 9, 6, 8, 3, 0, 2, -1, 1, 1, 0);
        dueFlight(court, 10, 6, 10, 2, 0, 2, -2, 1, 1, 0);
        dueEnd("a low ball", court, 3, 11, 1, 2, 0);
    }

    /** "the rise the half of what it is without its sign", "/ is cut towards 0": of -8, -10, -15, -7, -5. */
    private static void halfOfTheRise() {
        Check.due("half of 8", played(0, -2, 6).flight(14, 5), 4);
        Check.due("half of 10", played(0, -2, 9, 12, 0, -1, 0).flight(10, 5), 5);
        Check.due("half of 15", played(0, -2, 9, 8, 0, -1, 9).flight(24, 5), 7);
        Check.due("half of 7", played(0, -2, 5, 8, -1, -2, 2).flight(9, 5), 3);
        Check.due("half of 5", played(0, -2, 6, 12, 0, -2, 1).flight(6, 5), 2);
    }

    // ---- how a stroke's flight ends

    private static void endOfFlight() {
        downAtALowFrontTouch();
        downAtALowFrontTouchBehindABounce();
        downAtABounceAheadOfAnyFrontTouch();
        notDownAtABounceInTheMomentOfTheFrontTouch();
        outAheadOfAnyBounce();
        deadAtTheSecondBounce();
        deadOutBehindABounce();
        whatComesFirstCounts();
        whatComesAheadCountsToo();
    }

    /** "down: at a front touch lower than 4": at 3, and not at 4. */
    private static void downAtALowFrontTouch() {
        FivesCourt three = played(0, -2, 6, 13, 0, -2, 2);
        Check.due("the height at the front wall", three.flight(5, 2), 3);
        dueEnd("at 3", three, 1, 6, 1, 0, 0);
        FivesCourt four = played(0, -2, 6, 14, 0, -2, 3);
        Check.due("the height at the front wall", four.flight(6, 2), 4);
        Check.due("front touches at 4", four.flight(7, 6), 1);
        dueEnd("at 4", four, 3, 13, 1, 2, 0);
        dueEnd("a serve at 3", played(0, -2, 3), 1, 8, 1, 0, 0);
    }

    /** "(at any one, also behind a bounce)": at 3, and not at 4. */
    private static void downAtALowFrontTouchBehindABounce() {
        FivesCourt three = played(0, -2, 5, 8, -1, -2, 2);
        dueFlight(three, 10, 3, 1, 3, 1, -2, 2, 1, 1, 2);
        dueEnd("at 3 behind a bounce", three, 1, 11, 2, 1, 2);
        FivesCourt four = played(-2, -2, 7);
        dueFlight(four, 17, 7, 0, 4, 2, -2, 3, 1, 1, 4);
        dueFlight(four, 18, 9, 1, 7, 2, 2, 2, 2, 1, 4);
        dueEnd("at 4 behind a bounce", four, 3, 25, 2, 2, 5);
    }

    /** "or at a bounce ahead of any front touch": with none it is down, behind one the flight goes on. */
    private static void downAtABounceAheadOfAnyFrontTouch() {
        dueEnd("a bounce ahead", played(0, -2, 0), 1, 3, 0, 1, 0);
        // 3 + 2 * 7 - 21 is less than 0: the bounce is in the moment 6, at the row 2.
        dueEnd("a bounce just ahead", played(0, -2, 2), 1, 6, 0, 1, 0);
        FivesCourt behind = played(0, -2, 6);
        Check.due("bounces behind the front touch", behind.flight(14, 7), 1);
        dueEnd("a bounce behind", behind, 3, 23, 1, 1, 0);
        // A front touch of the stroke ahead is none of this one.
        dueEnd("a bounce of the next stroke", played(0, -2, 6, 14, 0, 0, 0), 1, 2, 0, 1, 0);
    }

    /** The same in one moment: the front touch is the step ahead of the bounce, so the ball is not down. */
    private static void notDownAtABounceInTheMomentOfTheFrontTouch() {
        FivesCourt court = played(0, -2, 9, 12, 0, -1, 0);
        Check.due("front touches ahead", court.flight(9, 6), 0);
        dueFlight(court, 10, 6, 0, 0, 0, 1, 5, 1, 1, 0);
        dueEnd("both in one moment", court, 3, 21, 1, 2, 0);
    }

    /** "out: behind the row 29, ahead of any bounce", with a front touch or without. */
    private static void outAheadOfAnyBounce() {
        dueEnd("out without a front touch", played(0, 2, 9), 2, 8, 0, 0, 0);
        FivesCourt court = played(0, -2, 9, 8, 0, -2, 4);
        dueFlight(court, 15, 6, 28, 2, 0, 2, -11, 1, 0, 0);
        dueEnd("out behind a front touch", court, 2, 16, 1, 0, 0);
    }

    /** "dead: at the second bounce": the first one is not the end. */
    private static void deadAtTheSecondBounce() {
        FivesCourt court = played(0, -1, 9);
        Check.due("bounces ahead", court.flight(19, 7), 0);
        Check.due("the first bounce", court.flight(20, 7), 1);
        Check.due("bounces by the moment 30", court.flight(30, 7), 1);
        dueNoFlight(court, 31);
        dueEnd("two bounces", court, 3, 31, 1, 2, 0);
    }

    /** "or out behind a bounce". */
    private static void deadOutBehindABounce() {
        FivesCourt court = played(0, -2, 6);
        dueFlight(court, 22, 6, 29, 4, 0, 2, -4, 1, 1, 0);
        dueEnd("out behind a bounce", court, 3, 23, 1, 1, 0);
    }

    /** "In a moment what comes first counts: .. that itself is counted .., and nothing behind it." */
    private static void whatComesFirstCounts() {
        // From 3, falling by 4, the ball is at the front wall ahead of its bounce.
        dueEnd("down ahead of a bounce", played(0, -2, 3), 1, 8, 1, 0, 0);
        // From 3 at the row 29, falling by 8, it is out ahead of its bounce.
        dueEnd("out ahead of a bounce", played(0, 1, 7), 2, 16, 0, 0, 0);
        // From 4 at the row 29, falling by 4, it is out ahead of its second bounce.
        dueEnd("dead ahead of a second bounce", played(0, -2, 6), 3, 23, 1, 1, 0);
        dueEnd("down by a bounce, which is counted", played(0, 0, 0), 1, 3, 0, 1, 0);
        dueEnd("dead by a second bounce, which is counted", played(0, -1, 9), 3, 31, 1, 2, 0);
    }

    /** The same: what comes in the steps ahead of the end, in its moment, is counted as in any other one. */
    private static void whatComesAheadCountsToo() {
        FivesCourt down = played(-2, -2, 3);
        Check.due("touches by the moment 7", down.flight(7, 8), 1);
        dueEnd("a wall and a low front touch", down, 1, 8, 1, 0, 2);
        FivesCourt out = played(-2, 1, 9);
        Check.due("touches by the moment 15", out.flight(15, 8), 2);
        dueEnd("a wall and out", out, 2, 16, 0, 0, 3);
        FivesCourt dead = played(-1, -2, 5);
        Check.due("touches by the moment 18", dead.flight(18, 8), 1);
        dueEnd("a wall and a second bounce", dead, 3, 19, 1, 2, 2);
        FivesCourt front = played(0, -2, 9, 15, -2, -2, 0);
        Check.due("front touches by the moment 17", front.flight(17, 6), 1);
        dueEnd("a front touch and a second bounce", front, 3, 18, 2, 2, 4);
        FivesCourt buttress = played(-1, -2, 6, 8, 0, -2, 5);
        Check.due("touches by the moment 25", buttress.flight(25, 8), 2);
        dueEnd("the buttress and a second bounce", buttress, 3, 26, 3, 2, 3);
    }

    // ---- A rally

    private static void rally() {
        serveFromItsPlace();
        sidesByTurns();
        downInJustThatMoment();
        outInJustThatMoment();
        deadInJustThatMoment();
        letWithoutAFrontTouch();
        letByTheLatestFlightAlone();
        heightOfOneAtTheLeast();
        leaveTillTheEnd();
    }

    /** "A rally begins with a serve: by the side that serves, from the column 6, the row 14, the height 3." */
    private static void serveFromItsPlace() {
        FivesCourt court = played(0, -2, 6, 8, 1, -1, 5);
        court.let();
        // Also behind a rally whose ball was struck elsewhere, and for the other side.
        playOn(court, 2, 1, 9);
        dueBall("served again", court, 6, 14, 3, 2, 1, 9);
        court.leave();
        Check.due("who serves behind a serve that is out", court.count(0), 1);
        playOn(court, -2, -2, 6);
        dueBall("served by 1", court, 6, 14, 3, -2, -2, 6);
        dueFlight(court, 0, 6, 14, 3, -2, -2, 6, 0, 0, 0);
    }

    /** "Then the sides strike by turns: the other one first." */
    private static void sidesByTurns() {
        FivesCourt court = new FivesCourt();
        for (int server = 0; server < 2; server++) {
            court.match(server);
            playOn(court, -1, -2, 5);
            for (int stroke = 0; stroke < 6; stroke++) {
                int turn = (server + 1 + stroke) % 2;
                Check.due("whose turn it is", court.count(1), turn);
                int played = court.told(turn, 3);
                Check.due("a stroke", court.strike(stroke == 0 ? 8 : 10, 0, -2, 9), 0);
                Check.due("strokes of that side", court.told(turn, 3), played + 1);
            }
        }
    }

    /** "if it ends so (in just that moment as well), down .., who struck it loses the rally": the side 1 here. */
    private static void downInJustThatMoment() {
        int[] run = {0, -2, 5, 8, -1, -2, 2};
        dueEnd("down", played(run), 1, 11, 2, 1, 2);
        Check.due("strike(10, ..) ahead of the end", played(run).strike(10, 0, 0, 0), 0);
        Check.due("strike(11, ..) in just that moment", played(run).strike(11, 0, 0, 0), 2);
        Check.due("strike(12, ..) behind the end", played(run).strike(12, 0, 0, 0), 2);
        // A serve that is down ahead of any front touch: a moment earlier it is a let.
        Check.due("strike(2, ..) of a serve", played(0, -2, 0).strike(2, 0, 0, 0), 1);
        Check.due("strike(3, ..) of a serve", played(0, -2, 0).strike(3, 0, 0, 0), 3);
    }

    /** The same, "or out". */
    private static void outInJustThatMoment() {
        int[] run = {0, -2, 9, 8, 0, -2, 4};
        dueEnd("out", played(run), 2, 16, 1, 0, 0);
        Check.due("strike(15, ..) ahead of the end", played(run).strike(15, 0, 0, 0), 0);
        Check.due("strike(16, ..) in just that moment", played(run).strike(16, 0, 0, 0), 2);
        Check.due("strike(17, ..) behind the end", played(run).strike(17, 0, 0, 0), 2);
        Check.due("strike(7, ..) of a serve", played(0, 2, 9).strike(7, 0, 0, 0), 1);
        Check.due("strike(8, ..) of a serve", played(0, 2, 9).strike(8, 0, 0, 0), 3);
    }

    /** The same, "dead, the side whose turn it is loses it (the new stroke does not come)". */
    private static void deadInJustThatMoment() {
        Check.due("strike(22, ..) ahead of the end", played(0, -2, 6).strike(22, 0, 0, 0), 0);
        FivesCourt court = played(0, -2, 6);
        Check.due("strike(23, ..) in just that moment", court.strike(23, 0, 0, 0), 2);
        dueTold("the new stroke did not come", court, 0, 1, 0, 1, 1);
        dueTold("the new stroke did not come", court, 1, 0, 0, 0, 0);
        Check.dueDouble("mean() without it", court.mean(), 1.0);
        int[] bounces = {0, -2, 9, 12, 0, -1, 0};
        Check.due("strike(20, ..) ahead of the end", played(bounces).strike(20, 0, 0, 0), 0);
        Check.due("strike(21, ..) in just that moment", played(bounces).strike(21, 0, 0, 0), 3);
        Check.due("strike(22, ..) behind the end", played(bounces).strike(22, 0, 0, 0), 3);
    }

    /** "if it has had no front touch by then, it is a let, even if it would have one later .. nobody wins it". */
    private static void letWithoutAFrontTouch() {
        FivesCourt early = played(0, -2, 6);
        Check.due("end(2)", early.end(2), 1);
        Check.due("strike(7, ..) ahead of the front touch", early.strike(7, 0, -2, 6), 1);
        dueCounts("a let", early, 0, -1, 0, 0, 1, 12, 0, -1, 0);
        dueTold("a let", early, 0, 0, 0, 0, 1);
        dueTold("a let", early, 1, 0, 0, 0, 0);
        FivesCourt justThen = played(0, -2, 6);
        Check.due("strike(8, ..) in the moment of the front touch", justThen.strike(8, 0, -2, 6), 0);
        dueCounts("no let", justThen, 0, 0, 2, 0, 0, 12, 0, -1, 0);
    }

    /** The same: what counts is the flight "of the stroke ahead", not a front touch of an earlier one. */
    private static void letByTheLatestFlightAlone() {
        // From the row 1, along -1, the front wall is touched in the second moment.
        FivesCourt court = played(0, -2, 6, 8, 0, -1, 5);
        Check.due("strike(1, ..) ahead of the front touch", court.strike(1, 0, -2, 6), 1);
        Check.due("lets", court.count(4), 1);
        FivesCourt justThen = played(0, -2, 6, 8, 0, -1, 5);
        Check.due("strike(2, ..) in the moment of the front touch", justThen.strike(2, 0, -2, 6), 0);
    }

    /** "with the height that it has (1 at the least)": at 0 it is struck from 1, at 1 from 1, at 2 from 2. */
    private static void heightOfOneAtTheLeast() {
        FivesCourt nought = played(0, -2, 6);
        Check.due("the height", nought.flight(14, 2), 0);
        nought.strike(14, 0, -2, 9);
        dueBall("struck at 0", nought, 6, 13, 1, 0, -2, 9);
        dueFlight(nought, 1, 6, 11, 10, 0, -2, 8, 0, 0, 0);
        FivesCourt one = played(0, -2, 9, 8, 0, -1, 9);
        Check.due("the height", one.flight(23, 2), 1);
        one.strike(23, 0, -2, 9);
        dueBall("struck at 1", one, 6, 21, 1, 0, -2, 9);
        FivesCourt two = played(0, -2, 9, 8, 0, -2, 4);
        Check.due("the height", two.flight(15, 2), 2);
        two.strike(15, 0, -2, 9);
        dueBall("struck at 2", two, 6, 28, 2, 0, -2, 9);
    }

    /** "Who lets a ball go does so till its flight ends": behind its front touch, and behind 60 moments as well. */
    private static void leaveTillTheEnd() {
        Check.due("leave() of a serve that will be dead", played(0, -2, 6).leave(), 2);
        Check.due("leave() of a serve that will be down", played(0, -2, 3).leave(), 3);
        Check.due("leave() of a serve that will be out", played(0, 2, 9).leave(), 3);
        FivesCourt longFlight = climbed(6, 0, -2, 8);
        Check.due("how long it flies", longFlight.end(1), 61);
        // Served by the side 0 the eighth stroke is of the side 1, and it is the turn of 0.
        Check.due("leave() of a ball that will be dead in the moment 61", longFlight.leave(), 3);
    }

    // ---- Points

    private static void points() {
        pointForTheServer();
        twelvePoints();
        asManyAsSet();
        threeGames();
        threeGamesOfFive();
    }

    /** "Who serves and wins a rally has one more; who wins one without serving serves from then on", at 11 as well. */
    private static void pointForTheServer() {
        FivesCourt court = broughtTo(11, 3);
        serveFor(court, 1);
        loseServing(court);
        dueTold("won without serving at 11", court, 0, 11, 0);
        Check.due("who serves then", court.count(0), 0);
        loseServing(court);
        dueTold("lost serving at 11", court, 0, 11, 0);
        dueTold("won without serving at 3", court, 1, 3, 0);
        Check.due("who serves then", court.count(0), 1);
        Check.due("games", court.count(8), 0);
    }

    /** "A game is won with 12 points ..; then both have none, and who won it serves": with 11 it is not. */
    private static void twelvePoints() {
        for (int side = 0; side < 2; side++) {
            FivesCourt court = side == 0 ? broughtTo(11, 5) : broughtTo(5, 11);
            Check.due("games with 11 points", court.count(8), 0);
            serveFor(court, side);
            winServing(court);
            dueTold("who won a game", court, side, 0, 1);
            dueTold("who lost a game", court, 1 - side, 0, 0);
            Check.due("games with 12 points", court.count(8), 1);
            Check.due("who serves behind the game", court.count(0), side);
        }
    }

    /** "or as many as it is set to": 13, 15, 14 and 16, and not one less. */
    private static void asManyAsSet() {
        for (int tight = 10; tight <= 11; tight++) {
            for (int more = 3; more <= 5; more += 2) {
                FivesCourt court = broughtTo(tight, tight);
                Check.due("set(" + more + ")", court.set(more), tight + more);
                serveFor(court, 0);
                for (int point = tight + 1; point < tight + more; point++) {
                    winServing(court);
                    dueTold("ahead of " + (tight + more), court, 0, point, 0);
                }
                winServing(court);
                dueTold("with " + (tight + more), court, 0, 0, 1);
                dueTold("with " + (tight + more), court, 1, 0, 0);
                Check.due("who serves behind the game", court.count(0), 0);
                Check.due("points of the next game", court.count(5), 12);
            }
        }
    }

    /** "A match is won with 3 games; then it is over": with 2 it is not. */
    private static void threeGames() {
        for (int side = 0; side < 2; side++) {
            FivesCourt court = new FivesCourt();
            winGame(court, side);
            winGame(court, side);
            Check.due("count(7) with 2 games", court.count(7), -1);
            Check.due("would() with 2 games", court.would(0, 0, -2, 6), 3);
            winGame(court, side);
            Check.due("count(7) with 3 games", court.count(7), side);
            dueTold("with 3 games", court, side, 0, 3);
            Check.dueThrow("serve() with 3 games", court, STATE, () -> court.serve(0, -2, 6));
        }
    }

    /** The same: 4 games of both, 2 each, are none of 3. */
    private static void threeGamesOfFive() {
        FivesCourt court = new FivesCourt();
        for (int game = 0; game < 4; game++) {
            winGame(court, game % 2);
        }
        Check.due("count(7) with 2 games each", court.count(7), -1);
        winGame(court, 1);
        Check.due("count(7) with 3 games of 5", court.count(7), 1);
        dueTold("with 3 of 5", court, 0, 0, 2);
        dueTold("with 3 of 5", court, 1, 0, 3);
        Check.due("games", court.count(8), 5);
    }

    // ---- Tight games

    private static void tightGames() {
        bothTenOrBothEleven();
        onceAGame();
        notSetItGoesToTwelve();
        settingChangesNoServer();
    }

    /** "If both sides have 10, or both 11": not with 9 or none each, nor with 10 and another number, or 11. */
    private static void bothTenOrBothEleven() {
        int[][] notTight = {{0, 0}, {1, 1}, {9, 9}, {10, 9}, {9, 10}, {11, 10}, {10, 11}, {11, 9}, {10, 0}};
        for (int[] points : notTight) {
            FivesCourt court = broughtTo(points[0], points[1]);
            Check.due("count(6) at " + points[0] + " to " + points[1], court.count(6), 0);
            Check.dueThrow("set(3) at " + points[0] + " to " + points[1], court, STATE, () -> court.set(3));
            Check.dueThrow("set(5) at " + points[0] + " to " + points[1], court, STATE, () -> court.set(5));
        }
        for (int both = 10; both <= 11; both++) {
            FivesCourt court = broughtTo(both, both);
            Check.due("count(6) at " + both + " both", court.count(6), 1);
            Check.due("set(3) at " + both + " both", court.set(3), both + 3);
        }
        // In a game that was set both can come to 12, which is not tight.
        FivesCourt court = broughtTo(10, 10);
        court.set(5);
        bringBothTo(court, 12);
        Check.due("count(6) at 12 both", court.count(6), 0);
        Check.dueThrow("set(3) at 12 both", court, STATE, () -> court.set(3));
    }

    /** "can set the game, once a game": not again at once, nor at 11; again in the next one and the next match. */
    private static void onceAGame() {
        FivesCourt court = broughtTo(10, 10);
        Check.due("set(5)", court.set(5), 15);
        Check.dueThrow("set(3) again", court, STATE, () -> court.set(3));
        bringBothTo(court, 11);
        Check.dueThrow("set(3) again at 11", court, STATE, () -> court.set(3));
        Check.due("count(5)", court.count(5), 15);
        for (int i = 0; i < 4; i++) {
            winServing(court);
        }
        Check.due("games", court.count(8), 1);
        bringBothTo(court, 11);
        Check.due("set(3) in the next game", court.set(3), 14);
        court.match(1);
        bringBothTo(court, 10);
        Check.due("set(3) in the next match", court.set(3), 13);
    }

    /** "if it does not, the game goes to 12": from 10 each, where it can be set at 11 each still, and from there. */
    private static void notSetItGoesToTwelve() {
        FivesCourt ten = broughtTo(10, 10);
        winServing(ten);
        Check.due("count(5) at 11 to 10", ten.count(5), 12);
        winServing(ten);
        Check.due("games at 12 to 10", ten.count(8), 1);
        FivesCourt eleven = broughtTo(11, 11);
        Check.due("count(5) at 11 both", eleven.count(5), 12);
        winServing(eleven);
        Check.due("games at 12 to 11", eleven.count(8), 1);
    }

    /** "the side that does not serve can set the game": who serves stays, whichever side that is. */
    private static void settingChangesNoServer() {
        for (int side = 0; side < 2; side++) {
            FivesCourt court = broughtTo(10, 10);
            serveFor(court, side);
            Check.due("count(6) as " + side + " serves", court.count(6), 1);
            Check.due("set(3) as " + side + " serves", court.set(3), 13);
            Check.due("who serves then", court.count(0), side);
        }
    }
}
