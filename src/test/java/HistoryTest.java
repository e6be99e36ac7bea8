/** Promises 52 to 58: events, strikes, amendments, matches played again, and why an event was refused. */
public final class HistoryTest {
    private static final Class<?> INDEX = IndexOutOfBoundsException.class;
    private static final Class<?> ARGUMENT = IllegalArgumentException.class;
    private static final Class<?> UNSUPPORTED = UnsupportedOperationException.class;

    public static void main(String[] args) {
        letters();
        strikes();
        strikesDropOthers();
        strikesOfPenalties();
        strikesAtTheEnd();
        strikesAndReviews();
        strikesTwice();
        strikesOfAllAtOnce();
        playsAgainBehindAStrike();
        amends();
        amendsTellAllAnew();
        amendsAreRefused();
        amendsNoOtherEvent();
        amendsStayBehindReviews();
        playsAgain();
        playsAgainWithShots();
        whys();
        Hall.end("HistoryTest");
    }

    private static String lettersOf(Blueline hall) {
        StringBuilder text = new StringBuilder();
        for (int index = 0; index < hall.events(); index++) {
            text.append(hall.eventAt(index));
        }
        return text.toString();
    }

    // Promises 52 and 53.
    private static void letters() {
        Blueline hall = Hall.begun(2 + 16);
        Hall.due("none", hall.events(), 0);
        Hall.refused(hall, "no event 0", INDEX, () -> hall.eventAt(0));
        hall.penalty(2, 'm', 2);
        hall.sit();
        hall.leave(3);
        hall.enter(7);
        hall.change(0, 1);
        hall.faceOff(2);
        hall.touch(12);
        hall.send(0);
        hall.race(1);
        hall.go(13, 0);
        hall.touch(13);
        hall.carry(0);
        hall.goal(13, -1, -1);
        hall.review('k');
        hall.faceOff(1);
        hall.stop();
        Hall.endThirdPeriod(hall);
        hall.shoot(2, true);
        Hall.due("letters", lettersOf(hall), "pblehfusrgucGvfzftftftS");
        Hall.due("events", hall.events(), 23);
        Hall.refused(hall, "no event -1", INDEX, () -> hall.eventAt(-1));
        Hall.refused(hall, "no event 23", INDEX, () -> hall.eventAt(23));
        Hall.refused(hall, "a refused event is none", UNSUPPORTED, hall::stop);
        Hall.due("events still", hall.events(), 23);
    }

    // Promise 54.
    private static void strikes() {
        Blueline hall = Hall.playing(0, 1);
        Hall.refused(hall, "no event -1", INDEX, () -> hall.strike(-1));
        Hall.refused(hall, "no event 1", INDEX, () -> hall.strike(1));
        hall.run(100);
        hall.run(20);
        hall.go(2, 3);
        Hall.due("strike", hall.strike(1), 3);
        Hall.due("clock without it", hall.clock(), 11980);
        Hall.due("letters", lettersOf(hall), "ftg");
        Hall.due("strike the last", hall.strike(2), 2);
        Hall.due("place without it", hall.placeOf(2), 1);
        Hall.due("strike the first drops all", hall.strike(0), 0);
        Hall.due("as at the beginning", hall.phase() + "" + hall.placeOf(12) + hall.clock(), "s212000");
    }

    private static void strikesDropOthers() {
        Blueline hall = Hall.playing(0, 3);
        hall.touch(2);
        hall.run(10);
        hall.goal(2, 3, -1);
        hall.faceOff(0);
        hall.run(20);
        Hall.due("a goal without a touch is not possible", hall.strike(1), 3);
        Hall.due("the face-off behind it neither, the tenths are", lettersOf(hall), "ftt");
        Hall.due("clock", hall.clock(), 11970);
        Hall.due("no score", hall.score(0), 0);
        Hall.due("no goal in the tally", hall.tally(2, 'g'), 0);
        Hall.due("the puck is where it was", hall.puck(), 3);
        Hall.due("sound", hall.isSound(), true);
    }

    private static void strikesOfPenalties() {
        Blueline hall = Hall.begun(0);
        hall.penalty(2, 'm', 2);
        hall.faceOff(1);
        Hall.due("one too many", hall.enter(7), 's');
        Hall.due("called for it", hall.waiting(0), 1);
        hall.faceOff(1);
        hall.run(1000);
        Hall.due("both run", hall.running(0, true), 2);
        Hall.due("strike the first face-off", hall.strike(1), 3);
        Hall.due("a sixth skater is too many while stopped", lettersOf(hall), "pft");
        Hall.due("one runs", hall.running(0, true), 1);
        Hall.due("none for entering", hall.tally(7, 'p'), 0);
        Hall.due("strike the penalty", hall.strike(0), 2);
        Hall.due("none runs", hall.running(0, true) + hall.waiting(0), 0);
        Hall.due("on the ice", hall.placeOf(2), 1);
        Hall.due("none in the tally", hall.tally(2, 'p'), 0);
    }

    private static void strikesAtTheEnd() {
        Blueline hall = Hall.begun(24);
        Hall.endThirdPeriod(hall);
        Hall.scoreBy(hall, 2);
        Hall.due("ended", hall.phase(), 'e');
        int goal = hall.events() - 1;
        Hall.due("strike the goal that ended it", hall.strike(goal), goal);
        Hall.due("playing again", hall.phase(), 'p');
        Hall.due("home has the puck", hall.having(false), 0);
        Hall.due("goes on", hall.goal(3, 2, -1), 'e');
        hall.strike(0);
        // Without its face-off the first period's tenths are left out, and all is a period late.
        Hall.due("letters", lettersOf(hall), "ftftfuG");
        Hall.due("a period late", hall.period(), 3);
        Hall.due("the goal does not end it", hall.phase(), 's');
    }

    private static void strikesAndReviews() {
        Blueline hall = Hall.playing(0, 2);
        hall.touch(2);
        hall.carry(3);
        hall.goal(2, -1, -1);
        hall.review('o');
        hall.faceOff(3);
        hall.touch(12);
        Hall.due("strike the review", hall.strike(4), 6);
        Hall.due("the goal counts", hall.score(0), 1);
        Hall.due("events", lettersOf(hall), "fucGfu");
        Blueline entry = Hall.playing(0, 2);
        entry.touch(2);
        entry.carry(3);
        entry.go(3, 1);
        entry.carry(2);
        entry.carry(3);
        entry.goal(2, -1, -1);
        entry.review('o');
        Hall.due("a review drops with its goal", entry.strike(1), 2);
        Hall.due("events then", lettersOf(entry), "fg");
    }

    // Promises 46, 54 and 56: nothing of what was told before stays behind.
    private static void strikesTwice() {
        Blueline hall = Hall.playing(1, 2);
        hall.touch(2);
        hall.go(3, 3);
        hall.carry(3);
        Hall.due("offside", hall.isOffside(0), true);
        hall.strike(3);
        Hall.due("not without the entry", hall.isOffside(0), false);
        String before = Hall.picture(hall);
        Hall.due("played again behind a strike", hall.again(0, 0), 0);
        Hall.due("changes nothing", Hall.picture(hall), before);
        Hall.due("all goes", hall.strike(0), 0);
        Hall.due("not offside at the beginning", hall.isOffside(0), false);
        Hall.due("the puck is at 1", hall.puck(), 1);
        Blueline again = Hall.playing(1, 1);
        again.touch(2);
        again.go(3, 3);
        again.carry(3);
        again.strike(2);
        again.goal(2, -1, -1);
        before = Hall.picture(again);
        Hall.due("by another edition the same", again.again(31, 0), 1);
        again.strike(3);
        again.go(3, 3);
        Hall.due("by another edition the same again", again.again(2, 0), 0);
        Hall.due("events stay", lettersOf(again), "fucg");
    }

    private static void strikesOfAllAtOnce() {
        Blueline hall = Hall.playing(1, 2);
        hall.touch(2);
        hall.go(3, 3);
        hall.carry(3);
        hall.strike(3);
        hall.strike(0);
        Hall.due("not offside at the beginning", hall.isOffside(0), false);
        Hall.due("no events", hall.events(), 0);
    }

    // Promise 56: what another edition would stop goes on here.
    private static void playsAgainBehindAStrike() {
        Blueline hall = Hall.playing(1, 2);
        hall.touch(2);
        hall.go(3, 3);
        hall.run(5);
        hall.carry(3);
        hall.run(20);
        hall.strike(3);
        Hall.due("no goal by another edition", hall.again(0, 0), 0);
        Hall.due("still playing", hall.phase(), 'p');
        Hall.due("still offside", hall.isOffside(0), true);
        Hall.due("clock without what was struck out", hall.clock(), 11980);
        hall.go(3, 2);
        hall.go(2, 2);
        hall.go(2, 3);
        hall.touch(2);
        hall.goal(2, -1, -1);
        hall.amend(hall.events() - 1, 4, -1);
        Hall.due("no goal by another edition again", hall.again(0, 0), 0);
        Hall.due("the goal stays here", hall.score(0), 1);
        Hall.due("the amended one", hall.tally(4, 'a'), 1);
    }

    // Promise 55.
    private static void amends() {
        Blueline hall = Hall.playing(0, 3);
        hall.touch(2);
        hall.goal(2, 3, -1);
        hall.faceOff(0);
        hall.touch(12);
        hall.goal(12, -1, -1);
        hall.change(4, 7);
        Hall.due("amend", hall.amend(2, 4, 5), 7);
        Hall.due("assist then", hall.tally(4, 'a') + hall.tally(5, 'a'), 2);
        Hall.due("no assist then", hall.tally(3, 'a'), 0);
        Hall.due("goal stays", hall.tally(2, 'g'), 1);
        Hall.due("scores stay", hall.score(0) * 10 + hall.score(1), 11);
        Hall.due("events behind stay", lettersOf(hall), "fuGfuGh");
        Hall.due("amend to none", hall.amend(2, -1, -1), 7);
        Hall.due("no assists then", hall.tally(4, 'a') + hall.tally(5, 'a'), 0);
        Hall.due("amend the other goal", hall.amend(5, 13, 14), 7);
        Hall.due("assists of it", hall.tally(13, 'a') + hall.tally(14, 'a'), 2);
        Hall.due("sound", hall.isSound(), true);
        hall.faceOff(1);
        hall.strike(0);
        Hall.due("an amended goal is told anew", hall.tally(13, 'a'), 1);
    }

    private static void amendsTellAllAnew() {
        Blueline hall = Hall.playing(0, 3);
        hall.run(100);
        hall.touch(2);
        hall.goal(2, -1, -1);
        hall.faceOff(3);
        hall.run(20);
        hall.touch(2);
        hall.goal(2, 3, -1);
        Hall.due("amend the first one", hall.amend(3, 4, -1), 8);
        Hall.due("clock", hall.clock(), 11880);
        Hall.due("score", hall.score(0), 2);
        Hall.due("goals", hall.tally(2, 'g'), 2);
        Hall.due("plus", hall.tally(2, '+'), 2);
        Hall.due("amend the second one", hall.amend(7, 5, 4), 8);
        Hall.due("clock then", hall.clock(), 11880);
        Hall.due("assists of both", hall.tally(4, 'a'), 2);
        Hall.due("score then", hall.score(0), 2);
    }

    // Promise 55: an event that is no goal, though one were possible there.
    private static void amendsNoOtherEvent() {
        Blueline hall = Hall.playing(0, 3);
        hall.touch(2);
        hall.go(3, 3);
        hall.carry(3);
        hall.change(4, 7);
        hall.goal(2, -1, -1);
        hall.review('k');
        for (int index : new int[] {0, 1, 2, 3, 4, 6}) {
            Hall.refused(hall, "no goal, event " + index, UNSUPPORTED, () -> hall.amend(index, 5, 6));
            Hall.refused(hall, "no goal and none, event " + index, UNSUPPORTED, () -> hall.amend(index, -1, -1));
        }
        Hall.due("the goal", hall.amend(5, 5, 6), 7);
    }

    private static void amendsAreRefused() {
        Blueline hall = Hall.playing(0, 3);
        hall.touch(2);
        hall.goal(2, 3, -1);
        hall.change(4, 7);
        Hall.refused(hall, "no event 4", INDEX, () -> hall.amend(4, 3, 3));
        Hall.refused(hall, "no event -1", INDEX, () -> hall.amend(-1, 3, 3));
        Hall.refused(hall, "no player 20", INDEX, () -> hall.amend(2, 20, 20));
        Hall.refused(hall, "no player -2", INDEX, () -> hall.amend(0, 3, -2));
        Hall.refused(hall, "two the same", ARGUMENT, () -> hall.amend(2, 3, 3));
        Hall.refused(hall, "two the same, of no goal", ARGUMENT, () -> hall.amend(0, 3, 3));
        Hall.refused(hall, "the scorer first", ARGUMENT, () -> hall.amend(2, 2, 3));
        Hall.refused(hall, "the scorer second", ARGUMENT, () -> hall.amend(2, 3, 2));
        Hall.refused(hall, "no first one", ARGUMENT, () -> hall.amend(2, -1, 3));
        Hall.refused(hall, "no first one, of no goal", ARGUMENT, () -> hall.amend(1, -1, 3));
        Hall.refused(hall, "no goal", UNSUPPORTED, () -> hall.amend(1, 3, 4));
        Hall.refused(hall, "no goal, nor an assist", UNSUPPORTED, () -> hall.amend(1, 2, -1));
        Hall.refused(hall, "on the bench then", UNSUPPORTED, () -> hall.amend(2, 7, -1));
        Hall.refused(hall, "a goalie", UNSUPPORTED, () -> hall.amend(2, 0, -1));
        Hall.refused(hall, "of the other side", UNSUPPORTED, () -> hall.amend(2, 3, 12));
        Hall.due("no why of an amendment", (Object) Hall.thrownBy(hall::why), java.util.NoSuchElementException.class);
        Hall.due("on the bench now, on the ice then", hall.amend(2, 4, -1), 4);
    }

    private static void amendsStayBehindReviews() {
        Blueline hall = Hall.playing(0, 2);
        hall.touch(2);
        hall.carry(3);
        hall.goal(2, -1, -1);
        hall.review('o');
        Hall.due("amend a refused goal", hall.amend(3, 3, -1), 5);
        Hall.due("it gives no assist", hall.tally(3, 'a'), 0);
        hall.strike(4);
        Hall.due("without the review it does", hall.tally(3, 'a'), 1);
    }

    // Promise 56.
    private static void playsAgain() {
        Blueline hall = Hall.playing(1, 1);
        hall.touch(2);
        hall.go(3, 3);
        hall.carry(3);
        hall.go(3, 2);
        hall.go(2, 2);
        hall.go(2, 3);
        hall.touch(2);
        hall.goal(2, -1, -1);
        String before = Hall.picture(hall);
        Hall.due("by its own edition", hall.again(1, 0), 1);
        Hall.due("an offside that stops leaves out the goal", hall.again(0, 0), 0);
        Hall.due("of the other side", hall.again(1, 1), 0);
        Hall.due("changes nothing", Hall.picture(hall), before);
        Hall.due("by all of it", hall.again(31, 0), 1);
        Blueline race = Hall.playing(0, 1);
        race.touch(2);
        race.carry(2);
        race.send(3);
        race.go(2, 3);
        race.touch(2);
        race.goal(2, -1, -1);
        Hall.due("no icing from the other half", race.again(2, 0), 1);
        race.strike(2);
        Hall.due("an icing drops the goal", race.score(0), 0);
    }

    private static void playsAgainWithShots() {
        Blueline hall = Hall.begun(16);
        Hall.endThirdPeriod(hall);
        for (int shot = 0; shot < 6; shot++) {
            hall.shoot(shot % 2 * 10 + 2 + shot / 2, shot == 5);
        }
        Hall.due("won by shots", hall.score(1), 1);
        Hall.due("again with shots", hall.again(16, 1), 1);
        Hall.due("without shots", hall.again(0, 1), 0);
        Hall.due("with overtime first", hall.again(24, 1), 0);
        Blueline overtime = Hall.begun(8);
        Hall.endThirdPeriod(overtime);
        Hall.scoreBy(overtime, 12);
        Hall.due("again with overtime", overtime.again(8, 1), 1);
        Hall.due("without", overtime.again(0, 1), 0);
    }

    // Promises 57 and 58: what other tests do not tell.
    private static void whys() {
        Blueline hall = Hall.begun(0);
        Hall.due("none so far", (Object) Hall.thrownBy(hall::why), java.util.NoSuchElementException.class);
        Hall.due("no number so far", (Object) Hall.thrownBy(hall::whyNumber), java.util.NoSuchElementException.class);
        Hall.impossible(hall, "a phase", 's', 's', hall::stop);
        hall.faceOff(1);
        Hall.due("stays told", hall.why(), 's');
        Hall.due("the number, too", hall.whyNumber(), 's');
        Hall.refused(hall, "another exception", ARGUMENT, () -> hall.run(0));
        Hall.due("stays told behind another exception", hall.why(), 's');
        Hall.impossible(hall, "the last one", 'h', -1, () -> hall.send(1));
        hall.strike(0);
        hall.again(0, 0);
        Hall.due("stays told behind a strike", hall.why(), 'h');
        Hall.endThirdPeriod(hall);
        hall.close();
        Hall.due("stays told behind the match", hall.whyNumber(), -1);
    }
}
