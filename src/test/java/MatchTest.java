import java.util.NoSuchElementException;

/** Promises 19 to 21, 38 to 46: laying, dressing, beginning and closing a match, and how it stands. */
public final class MatchTest {
    private static final Class<?> INDEX = IndexOutOfBoundsException.class;
    private static final Class<?> ARGUMENT = IllegalArgumentException.class;
    private static final Class<?> STATE = IllegalStateException.class;
    private static final Class<?> NOTHING = NoSuchElementException.class;
    private static final Class<?> UNSUPPORTED = UnsupportedOperationException.class;

    public static void main(String[] args) {
        laying();
        fortyMatches();
        dressing();
        fullLineups();
        beginning();
        firstOnes();
        closing();
        closingWithPenalties();
        bansAreServed();
        editions();
        withoutMatch();
        wrongArguments();
        Hall.end("MatchTest");
    }

    // Promise 19.
    private static void laying() {
        Blueline hall = Hall.twoClubs();
        Hall.refused(hall, "home -1", INDEX, () -> hall.match(-1, 0, 32));
        Hall.refused(hall, "away 2", INDEX, () -> hall.match(0, 2, 0));
        Hall.refused(hall, "a club twice", ARGUMENT, () -> hall.match(1, 1, 0));
        Hall.refused(hall, "edition -1", ARGUMENT, () -> hall.match(0, 1, -1));
        Hall.refused(hall, "edition 32", ARGUMENT, () -> hall.match(0, 1, 32));
        Hall.due("match", hall.match(1, 0, 31), 0);
        Hall.due("phase of a laid match", hall.phase(), '-');
        Hall.refused(hall, "a second match", STATE, () -> hall.match(0, 1, 0));
        Hall.refused(hall, "a second match of a wrong edition", ARGUMENT, () -> hall.match(0, 1, 32));
        Hall.due("home is the club 1", hall.dress(0, 12), 1);
        Hall.refused(hall, "the club 0 is away", UNSUPPORTED, () -> hall.dress(0, 2));
    }

    // Promises 19 and 38: at most 40 matches are closed. It takes more than the 512 calls that the document binds.
    private static void fortyMatches() {
        Blueline hall = smallClubs();
        for (int match = 0; match < 40; match++) {
            playShortest(hall, match);
        }
        Hall.refused(hall, "a 41st match", STATE, () -> hall.match(0, 1, 0));
        Hall.due("meanGoals of 40", (Object) hall.meanGoals(), 0.0);
    }

    private static Blueline smallClubs() {
        Blueline hall = new Blueline();
        hall.club();
        hall.club();
        for (int player = 0; player < 12; player++) {
            hall.player(player % 6 == 0, 1);
            hall.sign(player, player / 6);
        }
        return hall;
    }

    private static void playShortest(Blueline hall, int match) {
        Hall.due("matches closed when laid", hall.match(0, 1, 0), match);
        for (int player = 0; player < 12; player++) {
            hall.dress(player / 6, player);
        }
        hall.begin();
        Hall.endThirdPeriod(hall);
        Hall.due("matches closed", hall.close(), match + 1);
    }

    // Promise 20.
    private static void dressing() {
        Blueline hall = Hall.twoClubs();
        Hall.refused(hall, "no match is laid", NOTHING, () -> hall.dress(0, 2));
        Hall.refused(hall, "no side, no match", INDEX, () -> hall.dress(2, 2));
        Hall.refused(hall, "no player, no match", INDEX, () -> hall.dress(0, 20));
        hall.match(0, 1, 0);
        Hall.refused(hall, "side -1", INDEX, () -> hall.dress(-1, 2));
        Hall.refused(hall, "side 2", INDEX, () -> hall.dress(2, 2));
        Hall.refused(hall, "player -1", INDEX, () -> hall.dress(0, -1));
        hall.injure(2, true);
        hall.down(3);
        hall.ban(4, 1);
        Hall.refused(hall, "an injured one", UNSUPPORTED, () -> hall.dress(0, 2));
        Hall.refused(hall, "one who is down", UNSUPPORTED, () -> hall.dress(0, 3));
        Hall.refused(hall, "a banned one", UNSUPPORTED, () -> hall.dress(0, 4));
        Hall.refused(hall, "one of the other club", UNSUPPORTED, () -> hall.dress(0, 12));
        Hall.refused(hall, "one of no club", UNSUPPORTED, () -> hall.dress(0, 9));
        Hall.due("first", hall.dress(0, 5), 1);
        Hall.refused(hall, "again", UNSUPPORTED, () -> hall.dress(0, 5));
        Hall.due("first of the other side", hall.dress(1, 15), 1);
        Hall.due("second", hall.dress(0, 6), 2);
        Hall.refused(hall, "an event ahead of the beginning", NOTHING, () -> hall.faceOff(1));
        Hall.due("why is still not told", (Object) Hall.thrownBy(hall::why), NOTHING);
        Blueline begun = Hall.begun(0);
        begun.sign(9, 0);
        Hall.refused(begun, "a match that has begun", NOTHING, () -> begun.dress(0, 9));
        Hall.refused(begun, "one of its line-up", NOTHING, () -> begun.dress(0, 2));
        Hall.refused(begun, "no such side of it", INDEX, () -> begun.dress(2, 9));
        onWaivers();
    }

    private static void onWaivers() {
        Blueline hall = smallClubs();
        for (int match = 0; match < 3; match++) {
            playShortest(hall, match);
        }
        hall.down(2);
        hall.match(0, 1, 0);
        Hall.due("is on waivers", hall.statusOf(2), 'w');
        Hall.refused(hall, "one on waivers", UNSUPPORTED, () -> hall.dress(0, 2));
    }

    private static void fullLineups() {
        Blueline hall = new Blueline();
        hall.club();
        hall.club();
        for (int player = 0; player < 16; player++) {
            hall.player(player < 3, 1);
            hall.sign(player, 0);
        }
        hall.match(0, 1, 0);
        hall.dress(0, 0);
        hall.dress(0, 1);
        Hall.refused(hall, "a third goalie", UNSUPPORTED, () -> hall.dress(0, 2));
        for (int player = 3; player < 13; player++) {
            Hall.due("skater", hall.dress(0, player), player);
        }
        Hall.refused(hall, "a 13th player", UNSUPPORTED, () -> hall.dress(0, 13));
    }

    // Promise 21.
    private static void beginning() {
        Blueline hall = Hall.twoClubs();
        Hall.refused(hall, "no match is laid", NOTHING, hall::begin);
        hall.match(0, 1, 0);
        for (int player = 1; player < 6; player++) {
            hall.dress(0, player);
            hall.dress(1, 10 + player);
        }
        hall.dress(1, 16);
        Hall.refused(hall, "4 skaters", UNSUPPORTED, hall::begin);
        hall.dress(0, 6);
        Hall.due("begin", hall.begin(), 12);
        Hall.due("stopped", hall.phase(), 's');
        Hall.refused(hall, "begin again", NOTHING, hall::begin);
        Blueline without = Hall.twoClubs();
        without.match(0, 1, 0);
        for (int player = 2; player < 8; player++) {
            without.dress(0, player);
            without.dress(1, 10 + player);
        }
        without.dress(0, 0);
        Hall.refused(without, "the side 1 has no goalie", UNSUPPORTED, without::begin);
        without.dress(1, 10);
        Hall.due("with a goalie", without.begin(), 12);
    }

    // Promises 21, 39 to 46: how it stands at first.
    private static void firstOnes() {
        Blueline hall = Hall.twoClubs();
        hall.match(0, 1, 0);
        int[] home = {8, 1, 7, 6, 0, 5, 4, 3};
        for (int player : home) {
            hall.dress(0, player);
            hall.dress(1, 10 + player);
        }
        hall.begin();
        for (int player : new int[] {8, 1, 7, 6, 5, 4}) {
            Hall.due("on the ice, home " + player, hall.placeOf(player), 1);
            Hall.due("on the ice, away " + player, hall.placeOf(10 + player), 2);
        }
        Hall.due("second goalie on the bench", hall.placeOf(0), -1);
        Hall.due("sixth skater on the bench", hall.placeOf(13), -1);
        Hall.due("in no line-up", hall.placeOf(2), -4);
        Hall.due("of no club", hall.placeOf(9), -4);
        Hall.due("period", hall.period(), 1);
        Hall.due("clock", hall.clock(), 12000);
        Hall.due("puck", hall.puck(), 1);
        Hall.due("having", hall.having(false), -1);
        Hall.due("sent", hall.having(true), -1);
        Hall.due("events", hall.events(), 0);
        for (int side = 0; side < 2; side++) {
            Hall.due("score", hall.score(side), 0);
            Hall.due("offside", hall.isOffside(side), false);
            Hall.due("may", hall.may(side), 5);
            Hall.due("running", hall.running(side, true) + hall.running(side, false) + hall.waiting(side), 0);
            Hall.due("shots", hall.shots(side, true) + hall.shots(side, false), 0);
        }
        Hall.due("leftOf", hall.leftOf(8) + hall.leftOf(9), 0);
    }

    // Promise 38.
    private static void closing() {
        Blueline hall = Hall.twoClubs();
        Hall.refused(hall, "no match", NOTHING, hall::close);
        Hall.laid(hall, 0);
        Hall.refused(hall, "not begun", NOTHING, hall::close);
        hall.begin();
        Hall.refused(hall, "not ended", STATE, hall::close);
        Hall.endThirdPeriod(hall);
        Hall.due("ended", hall.phase(), 'e');
        Hall.due("close", hall.close(), 1);
        Hall.due("phase then", hall.phase(), '-');
        Hall.refused(hall, "close again", NOTHING, hall::close);
        Hall.refused(hall, "strike in a closed match", NOTHING, () -> hall.strike(0));
        Hall.laid(hall, 0);
        hall.begin();
        Hall.due("a new match has no events", hall.events(), 0);
        Hall.due("a new match has its clock", hall.clock(), 12000);
        Hall.due("a new match has its period", hall.period(), 1);
    }

    // Promises 38 and 47 to 50: a new match has nothing of the last one.
    private static void closingWithPenalties() {
        Blueline hall = Hall.begun(1);
        Hall.endPeriod(hall);
        Hall.endPeriod(hall);
        hall.faceOff(1);
        hall.run(11000);
        hall.penalty(2, 'm', 2);
        hall.penalty(12, 'x', 12);
        hall.stop();
        hall.sit();
        hall.penalty(13, 'm', 13);
        hall.faceOff(1);
        hall.penalty(14, 'm', 14);
        Hall.due("ends", hall.run(1000), 'e');
        Hall.due("runs at the end", hall.running(0, true) + hall.running(1, true), 2);
        Hall.due("waits at the end", hall.waiting(1), 1);
        Hall.due("tenths of who was called on at the end", hall.tally(14, 'p'), 0);
        hall.close();
        Hall.laid(hall, 0);
        hall.begin();
        for (int side = 0; side < 2; side++) {
            Hall.due("may", hall.may(side), 5);
            Hall.due("runs", hall.running(side, true) + hall.running(side, false), 0);
            Hall.due("waits", hall.waiting(side), 0);
        }
        Hall.due("left", hall.leftOf(2) + hall.leftOf(12), 0);
        Hall.due("on the ice", hall.placeOf(2) * 10 + hall.placeOf(12), 12);
        Hall.impossible(hall, "a sixth skater", 'n', 5, () -> hall.enter(7));
        hall.faceOff(1);
        hall.touch(2);
        Hall.due("nobody is short", hall.send(3), 's');
    }

    private static void bansAreServed() {
        Blueline hall = Hall.twoClubs();
        hall.club();
        hall.player(false, 1);
        hall.sign(9, 2);
        hall.ban(9, 3);
        hall.ban(7, 2);
        hall.ban(18, 1);
        hall.ban(19, 1);
        hall.match(0, 1, 0);
        for (int player = 0; player < 7; player++) {
            hall.dress(0, player);
            hall.dress(1, 10 + player);
        }
        hall.ban(6, 5);
        hall.begin();
        hall.penalty(2, 'X', 3);
        hall.penalty(12, 'X', 13);
        hall.penalty(12, 'X', 14);
        Hall.endThirdPeriod(hall);
        Hall.due("put out", hall.placeOf(2), -3);
        Hall.due("no ban ahead of the closing", hall.banOf(2), 0);
        hall.close();
        Hall.due("of another club", hall.banOf(9), 3);
        Hall.due("in no line-up", hall.banOf(7), 1);
        Hall.due("in no line-up, away", hall.banOf(18), 0);
        Hall.due("of no club", hall.banOf(19), 1);
        Hall.due("no ban stays none", hall.banOf(8), 0);
        Hall.due("in a line-up", hall.banOf(6), 5);
        Hall.due("was put out", hall.banOf(2), 2);
        Hall.due("was put out once", hall.banOf(12), 2);
        Hall.due("who served was not put out", hall.banOf(3), 0);
    }

    // Promise 19: each part of an edition does its own.
    private static void editions() {
        for (int edition = 0; edition < 32; edition++) {
            Blueline offside = Hall.playing(edition, 2);
            offside.touch(2);
            offside.go(3, 3);
            Hall.due("offside by " + edition, offside.carry(3), (edition & 1) > 0 ? 'p' : 's');
            Blueline icing = Hall.playing(edition, 1);
            icing.touch(2);
            Hall.due("icing by " + edition, icing.send(3), (edition & 2) > 0 ? 'r' : 's');
            Blueline minors = Hall.begun(edition);
            minors.penalty(2, 'm', 2);
            minors.penalty(12, 'm', 12);
            minors.sit();
            Hall.due("minors by " + edition, minors.running(0, true), (edition & 4) > 0 ? 1 : 0);
            Blueline alike = Hall.begun(edition);
            Hall.endThirdPeriod(alike);
            Hall.due("overtime by " + edition, alike.period(), (edition & 8) > 0 ? 4 : 3);
            if (alike.period() == 4) {
                Hall.endPeriod(alike);
            }
            Hall.due("shots by " + edition, alike.phase(), (edition & 16) > 0 ? 'o' : 'e');
        }
    }

    // Promises 22 to 58: no match was begun, or it is closed.
    private static void withoutMatch() {
        Blueline laid = Hall.twoClubs();
        laid.match(0, 1, 0);
        Blueline closed = Hall.begun(0);
        Hall.endThirdPeriod(closed);
        closed.close();
        for (Blueline hall : new Blueline[] {new Blueline(), laid, closed}) {
            Hall.Call[] calls = {hall::sit, () -> hall.faceOff(9), () -> hall.run(0), () -> hall.go(-1, 9),
                () -> hall.touch(-1), () -> hall.send(9), () -> hall.carry(9), () -> hall.race(9),
                () -> hall.change(-1, -1), () -> hall.leave(-1), () -> hall.enter(-1),
                () -> hall.penalty(-1, 'q', -1), hall::stop, () -> hall.goal(-1, -2, -2), () -> hall.review('q'),
                () -> hall.shoot(-1, true), hall::close, hall::period, hall::clock, () -> hall.score(9),
                () -> hall.placeOf(-1), hall::puck, () -> hall.having(true), () -> hall.isOffside(9),
                () -> hall.may(9), () -> hall.running(9, true), () -> hall.waiting(9), () -> hall.leftOf(-1),
                () -> hall.shots(9, true), hall::events, () -> hall.eventAt(-1), () -> hall.strike(-1),
                () -> hall.amend(-1, -2, -2), () -> hall.again(99, 9), hall::why, hall::whyNumber};
            for (int i = 0; i < calls.length; i++) {
                Hall.refused(hall, "no match, call " + i, NOTHING, calls[i]);
            }
        }
    }

    // Promises 22 to 56: arguments out of range, in the order of the exceptions.
    private static void wrongArguments() {
        Blueline hall = Hall.begun(0);
        for (int wrong : new int[] {-1, 20, Integer.MIN_VALUE, Integer.MAX_VALUE}) {
            Hall.Call[] calls = {() -> hall.go(wrong, 9), () -> hall.touch(wrong), () -> hall.change(wrong, 2),
                () -> hall.change(2, wrong), () -> hall.leave(wrong), () -> hall.enter(wrong),
                () -> hall.penalty(wrong, 'q', 2), () -> hall.penalty(2, 'q', wrong),
                () -> hall.goal(wrong, 2, 2), () -> hall.shoot(wrong, true), () -> hall.placeOf(wrong),
                () -> hall.leftOf(wrong), () -> hall.eventAt(wrong), () -> hall.strike(wrong),
                () -> hall.amend(wrong, 2, 2)};
            for (int i = 0; i < calls.length; i++) {
                Hall.refused(hall, "no player or event " + wrong + ", call " + i, INDEX, calls[i]);
            }
        }
        for (int wrong : new int[] {-1, 4, Integer.MIN_VALUE, Integer.MAX_VALUE}) {
            Hall.refused(hall, "faceOff", ARGUMENT, () -> hall.faceOff(wrong));
            Hall.refused(hall, "go", ARGUMENT, () -> hall.go(2, wrong));
            Hall.refused(hall, "send", ARGUMENT, () -> hall.send(wrong));
            Hall.refused(hall, "carry", ARGUMENT, () -> hall.carry(wrong));
        }
        for (int wrong : new int[] {-1, 2, Integer.MIN_VALUE, Integer.MAX_VALUE}) {
            Hall.Call[] calls = {() -> hall.race(wrong), () -> hall.score(wrong), () -> hall.isOffside(wrong),
                () -> hall.may(wrong), () -> hall.running(wrong, true), () -> hall.running(wrong, false),
                () -> hall.waiting(wrong), () -> hall.shots(wrong, true), () -> hall.shots(wrong, false),
                () -> hall.again(0, wrong)};
            for (int i = 0; i < calls.length; i++) {
                Hall.refused(hall, "no side, call " + i, ARGUMENT, calls[i]);
            }
        }
        for (int wrong : new int[] {0, -1, 12001, Integer.MIN_VALUE, Integer.MAX_VALUE}) {
            Hall.refused(hall, "run", ARGUMENT, () -> hall.run(wrong));
        }
        Hall.refused(hall, "again -1", ARGUMENT, () -> hall.again(-1, 0));
        Hall.refused(hall, "again 32", ARGUMENT, () -> hall.again(32, 0));
        Hall.refused(hall, "again of a wrong side, too", ARGUMENT, () -> hall.again(32, 2));
        Hall.refused(hall, "penalty kind", ARGUMENT, () -> hall.penalty(2, 'n', 2));
        Hall.refused(hall, "penalty kind of who serves not", ARGUMENT, () -> hall.penalty(9, 'n', 19));
        Hall.refused(hall, "review kind", ARGUMENT, () -> hall.review('K'));
        Hall.due("none of these was refused as not possible", (Object) Hall.thrownBy(hall::why), NOTHING);
    }
}
