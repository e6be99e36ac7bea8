/** Promises 35, 36, 37, 42, 51 and 59: goals, assists, plus, reviews, overtime goals and shots. */
public final class GoalTest {
    private static final Class<?> INDEX = IndexOutOfBoundsException.class;
    private static final Class<?> ARGUMENT = IllegalArgumentException.class;

    public static void main(String[] args) {
        goals();
        wrongGoals();
        impossibleGoals();
        plus();
        powerPlayGoals();
        minorBehindAMajor();
        callsAreTakenBack();
        callsTakenBackInPart();
        overtimeGoals();
        reviewsK();
        reviewsKOfPenalties();
        reviewsKOfAll();
        reviewsKOfTwoMinors();
        reviewsO();
        reviewsOOfTheSamePlace();
        reviewsOWithoutOldCalls();
        reviewsOWithCalls();
        reviewsOWithoutEntry();
        reviewOrder();
        overtimeReview();
        shots();
        shotsEnd();
        shotsGoOn();
        shooters();
        Hall.end("GoalTest");
    }

    /** Home has the puck at its far end, with all who are on the ice. */
    private static Blueline attacking(int edition) {
        Blueline hall = Hall.playing(edition, 3);
        hall.touch(2);
        return hall;
    }

    // Promises 35, 42 and 59.
    private static void goals() {
        Blueline hall = attacking(0);
        Hall.due("goal", hall.goal(4, 2, 3), 's');
        Hall.due("score", hall.score(0), 1);
        Hall.due("score of the other side", hall.score(1), 0);
        Hall.due("goals", hall.tally(4, 'g'), 1);
        Hall.due("assists", hall.tally(2, 'a') + hall.tally(3, 'a'), 2);
        Hall.due("no assist for the scorer", hall.tally(4, 'a'), 0);
        Hall.due("none has the puck", hall.having(false), -1);
        Hall.due("the clock stays", hall.clock(), 12000);
        hall.faceOff(3);
        hall.touch(3);
        hall.send(3);
        Hall.due("sent last", hall.goal(4, 2, -1), 's');
        Hall.due("two goals", hall.tally(4, 'g'), 2);
        hall.faceOff(0);
        hall.touch(12);
        hall.goal(13, -1, -1);
        Hall.due("away scores at 0", hall.score(1), 1);
        Hall.due("away scored", hall.tally(13, 'g'), 1);
        Hall.due("home's score stays", hall.score(0), 2);
    }

    private static void wrongGoals() {
        Blueline hall = attacking(0);
        Hall.refused(hall, "no first assist of this number", INDEX, () -> hall.goal(2, 20, 2));
        Hall.refused(hall, "no first assist -2", INDEX, () -> hall.goal(2, -2, 3));
        Hall.refused(hall, "no second assist of this number", INDEX, () -> hall.goal(2, 3, 20));
        Hall.refused(hall, "no second assist -2", INDEX, () -> hall.goal(2, 2, -2));
        Hall.refused(hall, "no scorer -1", INDEX, () -> hall.goal(-1, 3, 4));
        Hall.refused(hall, "the scorer as first assist", ARGUMENT, () -> hall.goal(2, 2, -1));
        Hall.refused(hall, "the scorer as second assist", ARGUMENT, () -> hall.goal(2, 3, 2));
        Hall.refused(hall, "an assist twice", ARGUMENT, () -> hall.goal(2, 3, 3));
        Hall.refused(hall, "no first assist, but a second one", ARGUMENT, () -> hall.goal(2, -1, 3));
        hall.stop();
        Hall.refused(hall, "the argument goes first", ARGUMENT, () -> hall.goal(2, 2, -1));
    }

    private static void impossibleGoals() {
        Blueline hall = attacking(0);
        Hall.impossible(hall, "scorer on the bench", 'i', 7, () -> hall.goal(7, 1, -1));
        Hall.impossible(hall, "scorer in no line-up", 'i', 9, () -> hall.goal(9, 1, -1));
        Hall.impossible(hall, "scorer is a goalie", 'g', 0, () -> hall.goal(0, 7, -1));
        Hall.impossible(hall, "first assist on the bench", 'i', 7, () -> hall.goal(2, 7, 0));
        Hall.impossible(hall, "first assist of a goalie on the bench", 'i', 1, () -> hall.goal(2, 1, -1));
        Hall.impossible(hall, "first assist of a goalie", 'g', 0, () -> hall.goal(2, 0, 7));
        Hall.impossible(hall, "first assist of the other goalie", 'g', 10, () -> hall.goal(2, 10, -1));
        Hall.impossible(hall, "first assist of the other side", 'i', 12, () -> hall.goal(2, 12, 7));
        Hall.impossible(hall, "second assist on the bench", 'i', 7, () -> hall.goal(2, 3, 7));
        Hall.impossible(hall, "second assist of a goalie", 'g', 0, () -> hall.goal(2, 3, 0));
        Hall.impossible(hall, "second assist of the other side", 'i', 12, () -> hall.goal(2, 3, 12));
        Hall.impossible(hall, "home has it", 'h', 0, () -> hall.goal(12, 13, 14));
        Hall.impossible(hall, "home has it, first assist on the bench", 'i', 17, () -> hall.goal(12, 17, 14));
        Hall.impossible(hall, "home has it, second assist of a goalie", 'g', 10, () -> hall.goal(12, 13, 10));
        Hall.impossible(hall, "home has it, first assist of home", 'i', 3, () -> hall.goal(12, 3, 14));
        hall.send(2);
        Hall.impossible(hall, "none has it, home sent it", 'h', -1, () -> hall.goal(12, -1, -1));
        Hall.impossible(hall, "elsewhere", 'q', 2, () -> hall.goal(2, -1, -1));
        Blueline none = Hall.playing(0, 3);
        Hall.impossible(none, "none has it", 'h', -1, () -> none.goal(2, 3, -1));
    }

    // Promise 59: plus.
    private static void plus() {
        Blueline hall = attacking(0);
        hall.change(3, 7);
        hall.goal(2, -1, -1);
        for (int player : new int[] {2, 7, 4, 5, 6}) {
            Hall.due("plus of " + player, hall.tally(player, '+'), 1);
            Hall.due("none for scoring alone " + player, hall.tally(player, 'a'), 0);
        }
        for (int player = 12; player < 17; player++) {
            Hall.due("plus of " + player, hall.tally(player, '+'), -1);
        }
        for (int player : new int[] {0, 1, 3, 8, 10, 11, 17, 18}) {
            Hall.due("no plus of " + player, hall.tally(player, '+'), 0);
        }
        Blueline shortHanded = Hall.begun(0);
        shortHanded.penalty(6, 'm', 6);
        Hall.scoreBy(shortHanded, 2);
        Hall.due("a side that is short has plus", shortHanded.tally(2, '+'), 1);
        Hall.due("the other side loses", shortHanded.tally(12, '+'), -1);
        Hall.due("its own minor goes on", shortHanded.running(0, true), 1);
        Blueline even = Hall.begun(4);
        even.penalty(6, 'm', 6);
        even.penalty(16, 'm', 16);
        Hall.scoreBy(even, 2);
        Hall.due("as many run of both", even.tally(2, '+'), 1);
        Hall.due("no minor ends", even.running(1, true), 1);
    }

    // Promise 35: the other side is short.
    private static void powerPlayGoals() {
        Blueline hall = Hall.begun(0);
        hall.penalty(16, 'M', 16);
        hall.penalty(15, '2', 15);
        hall.sit();
        Hall.scoreBy(hall, 2);
        Hall.due("no plus", hall.tally(2, '+'), 0);
        Hall.due("no minus", hall.tally(12, '+'), 0);
        Hall.due("the first minor ended", hall.leftOf(15), 1200);
        Hall.due("the second one runs", hall.running(1, true), 2);
        Hall.due("still in the box", hall.placeOf(15), -2);
        Hall.scoreBy(hall, 2);
        Hall.due("the second one ended", hall.leftOf(15), 0);
        Hall.due("on the bench", hall.placeOf(15), -1);
        Hall.due("the major goes on", hall.leftOf(16), 3000);
        Hall.scoreBy(hall, 2);
        Hall.due("a major never ends so", hall.leftOf(16), 3000);
        Hall.due("no plus by it", hall.tally(2, '+'), 0);
        Hall.due("three goals", hall.score(0), 3);
        Hall.due("the tally of tenths stays", hall.tally(15, 'p'), 2400);
    }

    // Promise 35: as a minor ends, those behind it stay what they are.
    private static void minorBehindAMajor() {
        Blueline hall = Hall.begun(0);
        hall.penalty(15, 'm', 15);
        hall.penalty(16, 'M', 16);
        hall.penalty(14, 'm', 14);
        hall.sit();
        Hall.scoreBy(hall, 2);
        Hall.due("the minor ended", hall.leftOf(15), 0);
        Hall.due("the major and the other minor run", hall.running(1, true), 2);
        Hall.scoreBy(hall, 2);
        Hall.due("the major goes on", hall.leftOf(16), 3000);
        Hall.due("the other minor ended", hall.leftOf(14), 0);
        Hall.due("on the bench", hall.placeOf(14), -1);
        Hall.scoreBy(hall, 2);
        Hall.due("the major goes on still", hall.leftOf(16), 3000);
        Blueline waits = Hall.begun(0);
        waits.penalty(15, 'M', 15);
        waits.penalty(16, 'M', 16);
        waits.penalty(14, 'm', 14);
        waits.sit();
        Hall.scoreBy(waits, 2);
        Hall.due("a minor that does not run does not end", waits.leftOf(14), 1200);
        Hall.due("no plus", waits.tally(2, '+'), 0);
        Blueline cancelled = Hall.begun(0);
        cancelled.penalty(15, 'm', 15);
        cancelled.penalty(5, 'm', 5);
        cancelled.penalty(16, 'M', 16);
        cancelled.sit();
        Hall.scoreBy(cancelled, 2);
        Hall.due("a minor that does not count does not end", cancelled.leftOf(15), 1200);
        Blueline more = Hall.begun(0);
        more.penalty(15, 'm', 15);
        more.penalty(15, 'x', 15);
        more.sit();
        Hall.scoreBy(more, 2);
        Hall.due("who serves another one stays in the box", more.placeOf(15), -2);
        Hall.due("the misconduct runs", more.running(1, false), 1);
    }

    // Promise 35: the first call of a minor is taken back.
    private static void callsAreTakenBack() {
        Blueline hall = attacking(0);
        hall.penalty(12, 'M', 12);
        hall.penalty(13, '2', 13);
        hall.penalty(14, 'm', 14);
        Hall.due("three wait", hall.waiting(1), 3);
        hall.goal(2, -1, -1);
        Hall.due("one of two is taken back", hall.waiting(1), 3);
        hall.sit();
        Hall.due("one of the two began", hall.leftOf(13), 1200);
        Hall.due("the next one began, too", hall.leftOf(14), 1200);
        Hall.due("tally of one", hall.tally(13, 'p'), 1200);
        Blueline minor = attacking(0);
        minor.penalty(12, 'x', 12);
        minor.penalty(14, 'm', 14);
        minor.penalty(13, '2', 13);
        minor.goal(2, -1, -1);
        Hall.due("the minor is taken back", minor.waiting(1), 2);
        minor.sit();
        Hall.due("did not begin", minor.leftOf(14), 0);
        Hall.due("two of the other one", minor.leftOf(13), 2400);
        Hall.due("the misconduct began", minor.leftOf(12), 6000);
        Blueline both = Hall.begun(0);
        both.penalty(16, 'm', 16);
        both.faceOff(3);
        both.touch(2);
        both.penalty(14, 'm', 14);
        both.goal(2, -1, -1);
        Hall.due("the running one ended and the called one is gone", both.waiting(1) + both.running(1, true), 0);
        Blueline own = Hall.playing(0, 3);
        own.penalty(3, 'm', 3);
        Hall.due("none has the puck", own.phase(), 'p');
        own.touch(12);
        own.send(3);
        Hall.due("a call on the own side waits", own.waiting(0), 1);
    }

    private static void callsTakenBackInPart() {
        Blueline hall = attacking(0);
        hall.penalty(12, 'x', 12);
        hall.penalty(14, 'm', 14);
        hall.penalty(10, '2', 13);
        hall.penalty(15, 'M', 15);
        hall.goal(2, -1, -1);
        hall.sit();
        Hall.due("none on 14", hall.tally(14, 'p'), 0);
        Hall.due("two minors on 10", hall.tally(10, 'p'), 2400);
        Hall.due("13 serves them", hall.leftOf(13), 2400);
        Hall.due("none on 13", hall.tally(13, 'p'), 0);
        Hall.due("a major on 15", hall.tally(15, 'p'), 3000);
        Hall.due("a misconduct on 12", hall.tally(12, 'p'), 6000);
        Blueline cancels = attacking(0);
        cancels.penalty(13, '2', 13);
        cancels.goal(2, -1, -1);
        cancels.penalty(3, 'm', 3);
        cancels.sit();
        Hall.due("one of two left cancels", cancels.running(0, true) + cancels.running(1, true), 0);
        Blueline four = attacking(4);
        four.penalty(13, '2', 13);
        four.goal(2, -1, -1);
        four.penalty(3, 'm', 3);
        four.sit();
        Hall.due("one of two left is one minor", four.running(0, true) + four.running(1, true), 2);
        Blueline majors = attacking(0);
        majors.penalty(12, 'M', 12);
        majors.penalty(13, 'X', 14);
        majors.penalty(15, 'x', 15);
        majors.goal(2, -1, -1);
        Hall.due("no others are taken back", majors.waiting(1), 3);
        Blueline twice = attacking(0);
        twice.penalty(13, '2', 13);
        twice.goal(2, -1, -1);
        twice.review('k');
        Hall.due("a refused goal takes nothing back", twice.waiting(1), 1);
        twice.sit();
        Hall.due("both minors began", twice.leftOf(13), 2400);
        Blueline three = attacking(0);
        three.penalty(12, 'm', 12);
        three.penalty(13, 'M', 13);
        three.penalty(14, 'm', 14);
        three.goal(2, -1, -1);
        Hall.due("two are left behind the goal", three.waiting(1), 2);
        three.review('k');
        Hall.due("all three wait again", three.waiting(1), 3);
        Hall.due("none of home", three.waiting(0), 0);
        three.sit();
        Hall.due("all three began", three.leftOf(12) + three.leftOf(13) + three.leftOf(14), 5400);
    }

    // Promise 35: in the period 4.
    private static void overtimeGoals() {
        Blueline hall = Hall.begun(8);
        Hall.endThirdPeriod(hall);
        hall.penalty(14, 'x', 14);
        hall.faceOff(0);
        hall.run(100);
        hall.touch(12);
        Hall.due("ends", hall.goal(13, 12, -1), 'e');
        Hall.due("score", hall.score(1), 1);
        Hall.due("period", hall.period(), 4);
        Hall.due("clock", hall.clock(), 2900);
        Hall.due("none has the puck", hall.having(false), -1);
        Hall.due("plus", hall.tally(12, '+'), 1);
        hall.close();
        Hall.due("2 points", hall.points(1), 2);
        Hall.due("1 point", hall.points(0), 1);
    }

    // Promise 36: k.
    private static void reviewsK() {
        Blueline hall = attacking(0);
        hall.run(50);
        hall.goal(4, 2, 3);
        Hall.due("review", hall.review('k'), 's');
        Hall.due("score", hall.score(0), 0);
        Hall.due("no goals", hall.tally(4, 'g'), 0);
        Hall.due("no assists", hall.tally(2, 'a'), 0);
        Hall.due("no plus", hall.tally(2, '+'), 0);
        Hall.due("no minus", hall.tally(12, '+'), 0);
        Hall.due("clock as ahead", hall.clock(), 11950);
        Hall.due("none has the puck", hall.having(false), -1);
        Hall.due("the puck stays", hall.puck(), 3);
        Hall.due("events stay", hall.events(), 5);
        Hall.due("the goal stays as an event", hall.eventAt(3), 'G');
        Hall.due("the review is one", hall.eventAt(4), 'v');
        Hall.impossible(hall, "once only", 's', 's', () -> hall.review('k'));
    }

    private static void reviewsKOfPenalties() {
        Blueline hall = Hall.begun(0);
        hall.penalty(16, 'm', 16);
        hall.faceOff(3);
        hall.touch(2);
        hall.penalty(15, '2', 15);
        hall.goal(2, -1, -1);
        hall.review('k');
        Hall.due("the minor runs on", hall.leftOf(16), 1200);
        Hall.due("it runs", hall.running(1, true), 1);
        Hall.due("away may be 4 again", hall.may(1), 4);
        Hall.due("in the box", hall.placeOf(16), -2);
        Hall.due("the call waits", hall.waiting(1), 1);
        hall.sit();
        Hall.due("both minors of it began", hall.leftOf(15), 2400);
    }

    // Promise 36: penalties of both sides are as ahead of the goal that ended one of them.
    private static void reviewsKOfAll() {
        Blueline hall = Hall.begun(0);
        hall.penalty(16, 'x', 16);
        hall.penalty(10, 'm', 15);
        hall.penalty(6, 'x', 6);
        hall.penalty(14, 'M', 14);
        hall.penalty(13, 'm', 13);
        hall.faceOff(3);
        hall.touch(2);
        hall.run(100);
        String before = penaltiesOf(hall);
        hall.goal(2, 3, 4);
        Hall.due("the first minor ended", hall.leftOf(15), 0);
        Hall.due("the next one runs", hall.waiting(1), 0);
        hall.review('k');
        Hall.due("all is as ahead", penaltiesOf(hall), before);
        hall.faceOff(3);
        hall.run(1100);
        Hall.due("the first minor ended by its tenths", hall.leftOf(15), 0);
        Hall.due("left of the next one", hall.leftOf(13), 1200);
        Hall.due("left of the major", hall.leftOf(14), 1800);
        Hall.due("left of the misconducts", hall.leftOf(16) + hall.leftOf(6), 9600);
        hall.touch(2);
        hall.goal(2, -1, -1);
        Hall.due("the next minor ended by the goal", hall.leftOf(13), 0);
        Hall.due("the major goes on", hall.leftOf(14), 1800);
        Hall.due("one goal", hall.score(0), 1);
    }

    // Promise 36: what ran and what waited ahead of the goal.
    private static void reviewsKOfTwoMinors() {
        Blueline hall = Hall.begun(0);
        hall.penalty(15, '2', 15);
        hall.penalty(16, 'x', 16);
        hall.faceOff(3);
        hall.touch(2);
        hall.goal(2, -1, -1);
        Hall.due("the second minor and the misconduct run", hall.waiting(1), 0);
        hall.review('k');
        Hall.due("the second minor waits", hall.waiting(1), 1);
        Hall.due("the first one runs", hall.running(1, true), 1);
        Hall.due("the misconduct runs", hall.running(1, false), 1);
        Hall.due("left of both", hall.leftOf(15), 2400);
        Hall.due("nobody entered", hall.placeOf(15), -2);
    }

    private static String penaltiesOf(Blueline hall) {
        StringBuilder text = new StringBuilder();
        for (int player = 0; player < 20; player++) {
            text.append(' ').append(hall.leftOf(player)).append(',').append(hall.placeOf(player));
        }
        for (int side = 0; side < 2; side++) {
            text.append(' ').append(hall.running(side, true)).append(hall.running(side, false));
            text.append(hall.waiting(side)).append(hall.may(side));
        }
        return text.toString();
    }

    // Promise 36: an entry comes from another place.
    private static void reviewsOOfTheSamePlace() {
        Blueline none = attacking(0);
        none.carry(3);
        none.send(3);
        none.touch(2);
        none.goal(2, -1, -1);
        Hall.impossible(none, "to the same place is no entry", 'o', 0, () -> none.review('o'));
        Blueline later = Hall.playing(0, 2);
        later.touch(2);
        later.run(10);
        later.carry(3);
        later.run(20);
        later.carry(3);
        later.run(30);
        later.send(3);
        later.touch(2);
        later.goal(2, -1, -1);
        later.review('o');
        Hall.due("ahead of the entry, not of what stayed there", later.clock(), 11990);
        Blueline brought = Hall.playing(0, 2);
        brought.touch(2);
        brought.carry(1);
        brought.go(12, 1);
        brought.touch(12);
        brought.send(3);
        brought.go(2, 3);
        brought.touch(2);
        brought.goal(2, -1, -1);
        Hall.impossible(brought, "the other side brought it there", 'o', 0, () -> brought.review('o'));
    }

    // Promise 36: calls of an earlier goal are none since the entry.
    private static void reviewsOWithoutOldCalls() {
        Blueline hall = attacking(0);
        hall.penalty(12, 'M', 12);
        hall.penalty(13, 'M', 13);
        hall.goal(2, -1, -1);
        hall.faceOff(2);
        hall.touch(2);
        hall.penalty(14, 'x', 14);
        hall.carry(3);
        hall.goal(2, -1, -1);
        hall.review('o');
        Hall.due("the one ahead of the entry waits", hall.waiting(1), 1);
        Hall.due("the goal ahead stays", hall.score(0), 1);
        hall.sit();
        Hall.due("the misconduct began", hall.leftOf(14), 6000);
        Hall.due("the majors began once", hall.leftOf(12) + hall.leftOf(13), 6000);
    }

    // Promise 36: o.
    private static void reviewsO() {
        Blueline hall = Hall.playing(1, 2);
        hall.touch(2);
        hall.run(100);
        hall.carry(3);
        hall.run(200);
        hall.carry(2);
        hall.run(300);
        hall.go(4, 3);
        hall.go(4, 2);
        hall.send(3);
        hall.run(400);
        hall.change(5, 7);
        hall.go(3, 3);
        hall.touch(3);
        hall.goal(3, 2, -1);
        Hall.due("clock behind the goal", hall.clock(), 11000);
        Hall.due("review", hall.review('o'), 's');
        Hall.due("clock ahead of the last entry", hall.clock(), 11400);
        Hall.due("puck ahead of it", hall.puck(), 2);
        Hall.due("places ahead of it", hall.placeOf(3), 2);
        Hall.due("changes ahead of it", hall.placeOf(7), -1);
        Hall.due("score", hall.score(0), 0);
        Hall.due("no goal", hall.tally(3, 'g'), 0);
        Hall.due("none has it", hall.having(false), -1);
        Hall.due("none sent it", hall.having(true), -1);
        hall.faceOff(2);
        Hall.due("goes on", hall.run(11400), 's');
        Hall.due("next period", hall.period(), 2);
    }

    // Promise 36: penalties since the entry are called again.
    private static void reviewsOWithCalls() {
        Blueline hall = Hall.begun(0);
        hall.penalty(10, 'm', 14);
        hall.faceOff(2);
        hall.touch(2);
        hall.penalty(12, 'm', 12);
        hall.run(100);
        hall.carry(3);
        hall.penalty(13, 'M', 13);
        hall.run(1100);
        Hall.due("14 is on the ice again", hall.placeOf(14), 2);
        hall.penalty(11, 'x', 14);
        hall.penalty(15, 'm', 15);
        hall.goal(2, -1, -1);
        Hall.due("three wait behind the goal", hall.waiting(1), 3);
        Hall.due("review", hall.review('o'), 's');
        Hall.due("14 is in the box again", hall.placeOf(14), -2);
        Hall.due("its tenths are back", hall.leftOf(14), 1100);
        Hall.due("all but the one that 14 cannot serve wait", hall.waiting(1), 3);
        hall.sit();
        Hall.due("12 began", hall.leftOf(12), 1200);
        Hall.due("13 began", hall.leftOf(13), 3000);
        Hall.due("15 began", hall.leftOf(15), 1200);
        Hall.due("not the one of 11", hall.tally(11, 'p'), 0);
        Hall.due("clock", hall.clock(), 11900);
    }

    private static void reviewsOWithoutEntry() {
        Blueline none = attacking(0);
        none.goal(2, -1, -1);
        Hall.impossible(none, "no entry", 'o', 0, () -> none.review('o'));
        Hall.due("k is possible", none.review('k'), 's');
        Blueline before = Hall.playing(0, 2);
        before.touch(2);
        before.carry(3);
        before.stop();
        Hall.scoreBy(before, 2);
        Hall.impossible(before, "an entry ahead of the face-off", 'o', 0, () -> before.review('o'));
        Blueline away = Hall.playing(0, 1);
        away.touch(12);
        away.carry(0);
        away.stop();
        Hall.scoreBy(away, 12);
        Hall.impossible(away, "an entry of away ahead of the face-off", 'o', 1, () -> away.review('o'));
        Blueline other = Hall.playing(0, 1);
        other.touch(2);
        other.carry(3);
        other.carry(0);
        other.touch(2);
        other.send(1);
        other.go(12, 1);
        other.touch(12);
        other.carry(0);
        other.goal(12, -1, -1);
        Hall.due("the entry of this side", other.review('o'), 's');
        Hall.due("ahead of its own entry", other.puck(), 1);
        Blueline theirs = Hall.playing(0, 0);
        theirs.touch(2);
        theirs.carry(3);
        theirs.carry(0);
        theirs.touch(12);
        theirs.goal(13, -1, -1);
        Hall.impossible(theirs, "an entry of the other side", 'o', 1, () -> theirs.review('o'));
    }

    private static void reviewOrder() {
        Blueline hall = attacking(0);
        hall.goal(2, -1, -1);
        hall.penalty(12, 'm', 12);
        Hall.impossible(hall, "not right behind the goal", 's', 's', () -> hall.review('k'));
        Blueline none = Hall.begun(0);
        Hall.impossible(none, "no goal at all", 's', 's', () -> none.review('o'));
        none.faceOff(1);
        Hall.impossible(none, "playing", 's', 'p', () -> none.review('k'));
    }

    private static void overtimeReview() {
        Blueline hall = Hall.begun(8);
        Hall.endThirdPeriod(hall);
        hall.faceOff(2);
        hall.touch(2);
        hall.run(10);
        hall.carry(3);
        hall.run(20);
        hall.goal(2, -1, -1);
        Hall.due("ended", hall.phase(), 'e');
        Hall.impossible(hall, "an event in a match that ended", 's', 'e', () -> hall.faceOff(1));
        Hall.due("the review takes the end back", hall.review('o'), 's');
        Hall.due("clock", hall.clock(), 2990);
        Hall.due("score", hall.score(0), 0);
        Hall.due("period", hall.period(), 4);
        Hall.scoreBy(hall, 2);
        Hall.due("k takes the end back, too", hall.review('k'), 's');
    }

    /** A match in shots. */
    private static Blueline inShots() {
        Blueline hall = Hall.begun(16);
        Hall.endThirdPeriod(hall);
        return hall;
    }

    // Promises 37 and 51.
    private static void shots() {
        Blueline hall = inShots();
        Hall.impossible(hall, "the side 1 is not first", 'v', 12, () -> hall.shoot(12, true));
        Hall.due("shoot", hall.shoot(2, true), 'o');
        Hall.due("shots", hall.shots(0, false), 1);
        Hall.due("goals", hall.shots(0, true), 1);
        Hall.due("of the other side", hall.shots(1, false), 0);
        Hall.due("no penalty", hall.waiting(0) + hall.waiting(1), 0);
        Hall.due("no score yet", hall.score(0), 0);
        Hall.due("no goal in the tally", hall.tally(2, 'g'), 0);
        Hall.impossible(hall, "the side 0 has to wait", 'v', 3, () -> hall.shoot(3, true));
        hall.shoot(12, false);
        Hall.due("shots of away", hall.shots(1, false), 1);
        Hall.due("goals of away", hall.shots(1, true), 0);
        Hall.due("the event", hall.eventAt(hall.events() - 1), 'S');
        Hall.impossible(hall, "who shot before others could", 'v', 2, () -> hall.shoot(2, true));
        hall.shoot(8, true);
        Hall.due("a shot behind", hall.shoot(13, false), 'e');
        Hall.due("score", hall.score(0), 1);
        Hall.due("score of away", hall.score(1), 0);
        hall.close();
        Hall.due("2 points", hall.points(0), 2);
        Hall.due("1 point", hall.points(1), 1);
        Hall.due("mean goals", (Object) hall.meanGoals(), 1.0);
    }

    private static void shotsEnd() {
        Hall.due("2 ahead, 1 left", shotsOf("1010"), 'e');
        Hall.due("1 ahead, 1 left", shotsOf("1000"), 'o');
        Hall.due("1 ahead, 1 left of the last two", shotsOf("10000"), 'o');
        Hall.due("2 ahead, 1 left of the last two", shotsOf("10001"), 'e');
        Hall.due("away ahead by one, home has none left", shotsOf("000001"), 'e');
        Hall.due("away two ahead, home has one left", shotsOf("0101"), 'e');
        Hall.due("away one ahead, home misses its last one", shotsOf("01000"), 'e');
        Hall.due("3 goals, one left", shotsOf("111"), 'o');
        Hall.due("home ahead behind three each", shotsOf("100000"), 'e');
        Hall.due("alike behind three each", shotsOf("111111"), 'o');
        Hall.due("home ahead, away has one left", shotsOf("11111"), 'o');
    }

    private static char shotsOf(String goals) {
        Blueline hall = inShots();
        char phase = 'o';
        for (int shot = 0; shot < goals.length(); shot++) {
            phase = hall.shoot(shot % 2 * 10 + 2 + shot / 2, goals.charAt(shot) == '1');
        }
        return phase;
    }

    private static void shotsGoOn() {
        Hall.due("the fourth ones, no goals", shotsOf("00000000"), 'o');
        Hall.due("away scores the fourth", shotsOf("00000001"), 'e');
        Hall.due("the fifth ones", shotsOf("0000000000"), 'o');
        // The words of the document end it at once: away has none left to take up to 3.
        Hall.due("home scores the fourth", shotsOf("0000001"), 'e');
    }

    private static void shooters() {
        Blueline hall = inShots();
        Hall.impossible(hall, "a goalie", 'v', 0, () -> hall.shoot(0, true));
        Hall.impossible(hall, "in no line-up", 'v', 9, () -> hall.shoot(9, true));
        for (int round = 0; round < 7; round++) {
            hall.shoot(2 + round, false);
            hall.shoot(12 + round, false);
        }
        Hall.due("all shot once", hall.shoot(5, false), 'o');
        Blueline boxed = Hall.begun(16);
        boxed.penalty(2, 'X', 3);
        boxed.sit();
        Hall.endPeriod(boxed);
        Hall.endPeriod(boxed);
        boxed.faceOff(1);
        boxed.penalty(4, 'M', 4);
        boxed.run(12000);
        Hall.due("shots", boxed.phase(), 'o');
        Hall.impossible(boxed, "who is out", 'v', 2, () -> boxed.shoot(2, true));
        Hall.impossible(boxed, "who is in the box", 'v', 4, () -> boxed.shoot(4, true));
        for (int player : new int[] {3, 5, 6, 7, 8}) {
            boxed.shoot(player, false);
            boxed.shoot(9 + player, false);
        }
        Hall.due("who could all shot once", boxed.shoot(7, false), 'o');
    }
}
