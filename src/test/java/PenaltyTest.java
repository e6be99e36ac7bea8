/** Promises 22, 33 and 47 to 50: penalties that wait, begin, cancel, stack, run and end. */
public final class PenaltyTest {
    public static void main(String[] args) {
        whoServes();
        waitsWhileStopped();
        waitsWhilePlaying();
        kinds();
        endsOnTheIce();
        endsOnTheBench();
        misconducts();
        twoMinors();
        stacking();
        serversBlock();
        serversBlockEachOther();
        nextOneRunsFromTheEndOn();
        tenthsAddUp();
        endsAtOnce();
        minorsCancel();
        editionFour();
        editionFourBehindOneThatEnded();
        majorsCancel();
        oneMajorOfEachSide();
        tooManyCancels();
        putOut();
        putOutWhoServes();
        putOutServerOfMore();
        putOutGoalie();
        endOfPeriod();
        overtimeEnds();
        waitersInTheBox();
        beginWithShots();
        Hall.end("PenaltyTest");
    }

    // Promise 33: who can be called on, and who can serve.
    private static void whoServes() {
        Blueline hall = Hall.begun(0);
        Hall.impossible(hall, "in no line-up", 'v', 9, () -> hall.penalty(9, 'm', 2));
        Hall.impossible(hall, "a skater serves alone", 'v', 3, () -> hall.penalty(2, 'm', 3));
        Hall.impossible(hall, "a goalie does not serve", 'v', 0, () -> hall.penalty(0, 'm', 0));
        Hall.impossible(hall, "nor another goalie", 'v', 1, () -> hall.penalty(0, 'm', 1));
        Hall.impossible(hall, "nor one of the other side", 'v', 12, () -> hall.penalty(0, 'm', 12));
        Hall.impossible(hall, "nor one in no line-up", 'v', 9, () -> hall.penalty(0, 'm', 9));
        Hall.impossible(hall, "who is put out does not serve", 'v', 2, () -> hall.penalty(2, 'X', 2));
        Hall.due("a skater from the bench", hall.penalty(0, 'm', 7), 's');
        Hall.due("a skater on the bench is called on", hall.penalty(8, 'M', 8), 's');
        Hall.due("another one for who is put out", hall.penalty(2, 'X', 3), 's');
        Hall.due("three wait", hall.waiting(0), 3);
        hall.sit();
        Hall.impossible(hall, "who serves is in the box", 'v', 7, () -> hall.penalty(1, 'm', 7));
        Hall.impossible(hall, "who is out is not called on", 'v', 2, () -> hall.penalty(2, 'm', 2));
        Hall.impossible(hall, "who is out does not serve", 'v', 2, () -> hall.penalty(0, 'm', 2));
        Hall.impossible(hall, "who is out goes first", 'v', 2, () -> hall.penalty(2, 'm', 9));
        Hall.impossible(hall, "who is in no line-up goes first", 'v', 9, () -> hall.penalty(9, 'X', 2));
        Hall.due("a skater in the box may be called on", hall.penalty(7, 'm', 7), 's');
    }

    // Promises 22, 33, 49.
    private static void waitsWhileStopped() {
        Blueline hall = Hall.begun(0);
        Hall.due("penalty", hall.penalty(2, 'm', 2), 's');
        Hall.due("waits", hall.waiting(0), 1);
        Hall.due("of the other side none", hall.waiting(1), 0);
        Hall.due("still on the ice", hall.placeOf(2), 1);
        Hall.due("nothing left to serve", hall.leftOf(2), 0);
        Hall.due("no tenths in the tally", hall.tally(2, 'p'), 0);
        Hall.due("may be 5", hall.may(0), 5);
        Hall.due("sit", hall.sit(), 's');
        Hall.due("none waits", hall.waiting(0), 0);
        Hall.due("in the box", hall.placeOf(2), -2);
        Hall.due("runs", hall.running(0, true), 1);
        Hall.due("none that does not count runs", hall.running(0, false), 0);
        Hall.due("may be 4", hall.may(0), 4);
        Hall.due("left", hall.leftOf(2), 1200);
        Hall.due("tally", hall.tally(2, 'p'), 1200);
        Blueline bench = Hall.begun(0);
        bench.penalty(7, 'm', 7);
        bench.sit();
        Hall.due("the last one goes when penalties begin", bench.placeOf(6), -1);
        Hall.due("the others stay", bench.placeOf(5), 1);
        Blueline face = Hall.begun(0);
        face.penalty(7, 'm', 7);
        face.faceOff(3);
        Hall.due("a face-off lets them begin", face.running(0, true), 1);
        Hall.due("and sends the last one off", face.placeOf(6), -1);
    }

    // Promise 33: while playing.
    private static void waitsWhilePlaying() {
        Blueline has = Hall.playing(0, 1);
        has.touch(2);
        Hall.due("the side has the puck", has.penalty(3, 'm', 3), 's');
        Hall.due("waits behind the stop", has.waiting(0), 1);
        Blueline sent = Hall.playing(0, 1);
        sent.touch(2);
        sent.send(2);
        Hall.due("the side sent it last", sent.penalty(3, 'm', 3), 's');
        Blueline other = Hall.playing(0, 1);
        other.touch(12);
        Hall.due("the other one has it", other.penalty(3, 'm', 3), 'p');
        Hall.due("the other one touches", other.touch(13), 'p');
        Hall.due("tenths go by", other.run(100), 'p');
        Hall.due("no tenths of it go by", other.waiting(0), 1);
        Hall.due("a touch of the side stops", other.touch(2), 's');
        Hall.due("none has it then", other.having(false), -1);
        Hall.due("still waits", other.waiting(0), 1);
        Blueline none = Hall.playing(0, 1);
        Hall.due("none has it", none.penalty(3, 'm', 3), 'p');
        none.stop();
        Hall.due("waits behind another stop", none.waiting(0), 1);
        none.faceOff(1);
        Hall.due("began by the face-off", none.leftOf(3), 1200);
    }

    // Promises 33, 50 and 59: how long they are at first.
    private static void kinds() {
        char[] kinds = {'m', '2', 'M', 'x', 'X'};
        int[] tenths = {1200, 2400, 3000, 6000, 3000};
        for (int i = 0; i < 5; i++) {
            Blueline hall = Hall.begun(0);
            int server = kinds[i] == 'X' ? 3 : 2;
            hall.penalty(2, kinds[i], server);
            hall.sit();
            Hall.due(kinds[i] + " left", hall.leftOf(server), tenths[i]);
            Hall.due(kinds[i] + " tally", hall.tally(2, 'p'), tenths[i]);
            Hall.due(kinds[i] + " tally of others", hall.tally(3, 'p'), 0);
            Hall.due(kinds[i] + " counts", hall.running(0, true), kinds[i] == 'x' ? 0 : 1);
            Hall.due(kinds[i] + " does not count", hall.running(0, false), kinds[i] == 'x' ? 1 : 0);
            Hall.due(kinds[i] + " may", hall.may(0), kinds[i] == 'x' ? 5 : 4);
        }
        Blueline goalie = Hall.begun(0);
        goalie.penalty(0, '2', 3);
        goalie.sit();
        Hall.due("a goalie stays", goalie.placeOf(0), 1);
        Hall.due("another one serves", goalie.placeOf(3), -2);
        Hall.due("who serves has it left", goalie.leftOf(3), 2400);
        Hall.due("the goalie has nothing left", goalie.leftOf(0), 0);
        Hall.due("the goalie has the tally", goalie.tally(0, 'p'), 2400);
    }

    private static void endsOnTheIce() {
        Blueline hall = Hall.begun(0);
        hall.penalty(2, 'm', 2);
        hall.penalty(13, 'M', 13);
        hall.faceOff(3);
        hall.run(1199);
        Hall.due("one tenth left", hall.leftOf(2), 1);
        Hall.due("still in the box", hall.placeOf(2), -2);
        hall.run(1);
        Hall.due("at the gate", hall.placeOf(2), 1);
        Hall.due("none left", hall.leftOf(2), 0);
        Hall.due("may be 5", hall.may(0), 5);
        hall.run(1800);
        Hall.due("at the gate of away", hall.placeOf(13), 2);
        Hall.due("the tally stays", hall.tally(13, 'p'), 3000);
    }

    private static void endsOnTheBench() {
        Blueline hall = Hall.begun(0);
        hall.penalty(2, 'm', 2);
        hall.faceOff(3);
        hall.leave(0);
        hall.enter(7);
        hall.run(1);
        hall.enter(0);
        Hall.due("5 skaters and a goalie are on the ice", hall.phase(), 'p');
        hall.run(1199);
        Hall.due("too many with who comes", hall.placeOf(2), -1);
        Hall.due("nobody goes for who ended", hall.placeOf(7), 1);
    }

    // Promise 33: a misconduct.
    private static void misconducts() {
        Blueline hall = Hall.begun(0);
        hall.penalty(2, 'x', 2);
        hall.faceOff(3);
        Hall.due("in the box", hall.placeOf(2), -2);
        hall.enter(7);
        hall.run(6000);
        Hall.due("waits in the box", hall.placeOf(2), -2);
        Hall.due("nothing left", hall.leftOf(2), 0);
        Hall.due("none runs", hall.running(0, false), 0);
        hall.run(100);
        Hall.due("still waits", hall.placeOf(2), -2);
        hall.stop();
        Hall.due("on the bench by the stop", hall.placeOf(2), -1);
    }

    private static void twoMinors() {
        Blueline hall = Hall.begun(0);
        hall.penalty(2, '2', 2);
        Hall.due("two minors wait as one", hall.waiting(0), 1);
        hall.sit();
        Hall.due("the first one runs", hall.running(0, true), 1);
        Hall.due("the second one does not", hall.waiting(0), 1);
        hall.faceOff(1);
        hall.run(1300);
        Hall.due("the second one runs", hall.running(0, true), 1);
        Hall.due("none waits", hall.waiting(0), 0);
        Hall.due("left", hall.leftOf(2), 1100);
        Hall.due("in the box", hall.placeOf(2), -2);
        hall.run(1100);
        Hall.due("at the gate", hall.placeOf(2), 1);
    }

    // Promise 48: of those that count two run.
    private static void stacking() {
        Blueline hall = Hall.begun(0);
        hall.penalty(2, 'm', 2);
        hall.faceOff(1);
        hall.run(100);
        hall.stop();
        hall.penalty(3, 'm', 3);
        hall.penalty(4, 'm', 4);
        hall.penalty(5, 'x', 5);
        hall.faceOff(1);
        Hall.due("two run", hall.running(0, true), 2);
        Hall.due("a misconduct runs, too", hall.running(0, false), 1);
        Hall.due("one waits", hall.waiting(0), 1);
        Hall.due("may be 3", hall.may(0), 3);
        hall.enter(7);
        hall.enter(8);
        hall.run(1100);
        Hall.due("the third one runs", hall.running(0, true), 2);
        Hall.due("may still be 3", hall.may(0), 3);
        Hall.due("on the bench, as 3 are on the ice", hall.placeOf(2), -1);
        Hall.due("left of the second", hall.leftOf(3), 100);
        Hall.due("left of the third", hall.leftOf(4), 1200);
        hall.run(150);
        Hall.due("the second one is on the ice", hall.placeOf(3), 1);
        Hall.due("left of the third then", hall.leftOf(4), 1050);
        hall.run(1050);
        Hall.due("the third one is on the ice", hall.placeOf(4), 1);
        Hall.due("may be 5", hall.may(0), 5);
    }

    // Promise 49: who serves an earlier one cannot let a later one run.
    private static void serversBlock() {
        Blueline hall = Hall.begun(0);
        hall.penalty(2, 'x', 2);
        hall.penalty(2, 'm', 2);
        hall.penalty(3, 'm', 3);
        hall.sit();
        Hall.due("the minor behind the misconduct waits", hall.waiting(0), 1);
        Hall.due("the other minor runs", hall.running(0, true), 1);
        Hall.due("the misconduct runs", hall.running(0, false), 1);
        Hall.due("left of both", hall.leftOf(2), 7200);
        hall.faceOff(1);
        hall.run(6100);
        Hall.due("the minor runs then", hall.leftOf(2), 1100);
        Hall.due("counts", hall.running(0, true), 1);
        hall.run(1100);
        Hall.due("comes onto the ice, as the minor counts", hall.placeOf(2), 1);
        Blueline late = Hall.begun(0);
        late.penalty(2, 'm', 2);
        late.penalty(2, 'x', 2);
        late.faceOff(1);
        late.run(1200);
        Hall.due("serves another one yet", late.placeOf(2), -2);
        Hall.due("may be 5", late.may(0), 5);
        late.run(6000);
        Hall.due("waits, as the last one does not count", late.placeOf(2), -2);
        Blueline third = Hall.begun(0);
        third.penalty(2, '2', 2);
        third.penalty(3, '2', 3);
        third.penalty(4, 'm', 4);
        third.sit();
        Hall.due("two of the five run", third.running(0, true), 2);
        Hall.due("three wait", third.waiting(0), 3);
        third.faceOff(1);
        third.run(1200);
        Hall.due("the second ones of the two run", third.running(0, true), 2);
        Hall.due("the minor of the third one waits", third.leftOf(4), 1200);
    }

    // Promise 49: of three servers the first one's second penalty waits for the first one's alone.
    private static void serversBlockEachOther() {
        Blueline hall = Hall.begun(0);
        hall.penalty(2, 'x', 2);
        hall.penalty(3, 'x', 3);
        hall.penalty(2, 'm', 2);
        hall.penalty(3, 'm', 3);
        hall.penalty(4, 'm', 4);
        hall.sit();
        Hall.due("misconducts of both run", hall.running(0, false), 2);
        Hall.due("the minor of the third one runs", hall.running(0, true), 1);
        Hall.due("minors of the first two wait", hall.waiting(0), 2);
        Hall.due("may be 4", hall.may(0), 4);
        Blueline third = Hall.begun(0);
        third.penalty(3, 'm', 3);
        third.penalty(4, 'm', 4);
        third.penalty(2, 'm', 2);
        third.penalty(2, 'x', 2);
        third.sit();
        Hall.due("the misconduct behind a minor that waits does not run", third.running(0, false), 0);
        Hall.due("two wait", third.waiting(0), 2);
        third.faceOff(1);
        third.run(1200);
        Hall.due("nor as the minor runs", third.leftOf(2), 7200);
        third.run(1200);
        Hall.due("it runs then", third.running(0, false), 1);
    }

    // Promise 50: tenths that go by at once count for each as long as it runs.
    private static void nextOneRunsFromTheEndOn() {
        Blueline hall = Hall.begun(0);
        hall.penalty(2, 'm', 2);
        hall.penalty(2, 'M', 2);
        hall.penalty(13, 'm', 13);
        hall.penalty(13, 'x', 13);
        hall.penalty(14, 'x', 14);
        hall.faceOff(1);
        hall.run(1300);
        Hall.due("100 of the major went by", hall.leftOf(2), 2900);
        Hall.due("100 of the misconduct went by", hall.leftOf(13), 5900);
        Hall.due("1300 of the other one", hall.leftOf(14), 4700);
        hall.run(2900);
        Hall.due("the major ended", hall.placeOf(2), 1);
        Hall.due("left of the misconduct", hall.leftOf(13), 3000);
        hall.run(3000);
        Hall.due("none runs", hall.running(1, false), 0);
    }

    // Promise 59: tenths of all kinds that one was called on.
    private static void tenthsAddUp() {
        Blueline hall = Hall.begun(0);
        int[] tenths = {1200, 7200, 10200, 12600, 15600, 21600, 24600};
        String kinds = "mxM2Mx";
        for (int i = 0; i < kinds.length(); i++) {
            hall.penalty(2, kinds.charAt(i), 2);
            hall.sit();
            Hall.due("tally behind " + kinds.charAt(i), hall.tally(2, 'p'), tenths[i]);
            Hall.due("left behind " + kinds.charAt(i), hall.leftOf(2), tenths[i]);
        }
        hall.penalty(2, 'X', 3);
        hall.sit();
        Hall.due("tally behind X", hall.tally(2, 'p'), 24600);
        Hall.due("one of all runs, and that of who is out", hall.running(0, true), 2);
        Hall.due("six wait", hall.waiting(0), 6);
    }

    // Several that end at once, while another one waits.
    private static void endsAtOnce() {
        Blueline hall = Hall.begun(0);
        hall.penalty(2, 'm', 2);
        hall.penalty(3, 'm', 3);
        hall.penalty(4, 'm', 4);
        hall.penalty(12, 'm', 12);
        hall.faceOff(1);
        Hall.due("one of each side cancels", hall.running(0, false), 1);
        Hall.due("two run", hall.running(0, true), 2);
        Hall.due("three are in the box", hall.placeOf(2) + hall.placeOf(3) + hall.placeOf(4), -6);
        hall.run(1200);
        Hall.due("who cancelled waits in the box", hall.placeOf(2), -2);
        Hall.due("who counted comes", hall.placeOf(3), 1);
        Hall.due("who counted comes, too", hall.placeOf(4), 1);
        Hall.due("who cancelled waits, away", hall.placeOf(12), -2);
        hall.stop();
        Hall.due("to the bench", hall.placeOf(2), -1);
        Hall.due("to the bench, away", hall.placeOf(12), -1);
        Blueline three = Hall.begun(0);
        for (int player = 2; player < 5; player++) {
            three.penalty(player, 'm', player);
        }
        three.faceOff(1);
        three.enter(7);
        three.run(1200);
        Hall.due("the third one runs", three.leftOf(4), 1200);
        Hall.due("as the first one ends, the third one runs for it", three.placeOf(2), -1);
        Hall.due("as the second one ends, no other one waits", three.placeOf(3), 1);
        Hall.due("may be 4", three.may(0), 4);
    }

    // Promise 22: minors cancel.
    private static void minorsCancel() {
        Blueline hall = Hall.begun(0);
        hall.penalty(2, 'm', 2);
        hall.penalty(12, 'm', 12);
        hall.sit();
        Hall.due("do not count", hall.running(0, true) + hall.running(1, true), 0);
        Hall.due("run", hall.running(0, false) + hall.running(1, false), 2);
        Hall.due("may be 5", hall.may(0), 5);
        Hall.due("in the box", hall.placeOf(2), -2);
        Hall.due("the tally has it", hall.tally(2, 'p'), 1200);
        hall.penalty(3, 'm', 3);
        hall.sit();
        Hall.due("those that cancelled cancel no later one", hall.running(0, true), 1);
        Blueline two = Hall.begun(0);
        two.penalty(2, 'm', 2);
        two.penalty(3, '2', 3);
        two.penalty(12, '2', 12);
        two.sit();
        Hall.due("the earlier two do not count", two.running(0, false), 2);
        Hall.due("the last one cannot run yet", two.waiting(0), 1);
        Hall.due("of away both do not count, one runs", two.running(1, false), 1);
        two.faceOff(1);
        two.run(1200);
        Hall.due("the last one counts", two.running(0, true), 1);
        Hall.due("left", two.leftOf(3), 1200);
        Blueline apart = Hall.begun(0);
        apart.penalty(2, 'm', 2);
        apart.sit();
        apart.penalty(12, 'm', 12);
        apart.sit();
        Hall.due("not when they begin apart", apart.running(0, true) + apart.running(1, true), 2);
        Blueline unlike = Hall.begun(0);
        unlike.penalty(2, 'm', 2);
        unlike.penalty(12, 'M', 12);
        unlike.penalty(3, 'x', 3);
        unlike.sit();
        Hall.due("a minor and a major do not cancel", unlike.running(0, true) + unlike.running(1, true), 2);
    }

    // Promise 22, by the edition 4.
    private static void editionFour() {
        Blueline one = Hall.begun(4);
        one.penalty(2, 'm', 2);
        one.penalty(3, 'x', 3);
        one.penalty(12, 'm', 12);
        one.sit();
        Hall.due("one minor of each side counts", one.running(0, true) + one.running(1, true), 2);
        Blueline two = Hall.begun(4);
        two.penalty(2, '2', 2);
        two.penalty(12, 'm', 12);
        two.sit();
        Hall.due("two of one side cancel one", two.running(1, true), 0);
        Blueline twoEach = Hall.begun(4);
        twoEach.penalty(2, '2', 2);
        twoEach.penalty(12, 'm', 12);
        twoEach.penalty(13, 'm', 13);
        twoEach.sit();
        Hall.due("two of each side cancel", twoEach.running(0, true) + twoEach.running(1, true), 0);
        Blueline major = Hall.begun(4);
        major.penalty(2, 'm', 2);
        major.penalty(12, 'm', 12);
        major.penalty(13, 'M', 13);
        major.sit();
        Hall.due("with a major they cancel", major.running(0, true), 0);
        Hall.due("the major counts", major.running(1, true), 1);
        Blueline majors = Hall.begun(4);
        for (int player = 2; player < 4; player++) {
            majors.penalty(player, player == 2 ? 'm' : 'M', player);
            majors.penalty(10 + player, player == 2 ? 'm' : 'M', 10 + player);
        }
        majors.sit();
        Hall.due("with a major of each side all cancel", majors.running(0, false) + majors.running(1, false), 4);
        Blueline ahead = Hall.begun(4);
        ahead.penalty(13, 'm', 13);
        ahead.sit();
        ahead.penalty(2, 'm', 2);
        ahead.penalty(12, 'm', 12);
        ahead.sit();
        Hall.due("with one that counts ahead they cancel", ahead.running(0, true), 0);
        Hall.due("the one ahead counts", ahead.running(1, true), 1);
        Blueline misconduct = Hall.begun(4);
        misconduct.penalty(13, 'x', 13);
        misconduct.sit();
        misconduct.penalty(2, 'm', 2);
        misconduct.penalty(12, 'm', 12);
        misconduct.sit();
        Hall.due("one that does not count ahead is no hindrance", misconduct.running(0, true), 1);
    }

    private static void editionFourBehindOneThatEnded() {
        Blueline ended = Hall.begun(4);
        ended.penalty(13, 'm', 13);
        ended.faceOff(1);
        ended.run(1199);
        ended.stop();
        Blueline still = Hall.begun(4);
        still.penalty(13, 'm', 13);
        still.faceOff(1);
        still.run(1199);
        ended.faceOff(1);
        ended.run(1);
        for (Blueline match : new Blueline[] {ended, still}) {
            match.stop();
            match.penalty(2, 'm', 2);
            match.penalty(12, 'm', 12);
            match.sit();
        }
        Blueline waits = Hall.begun(4);
        waits.penalty(13, 'x', 13);
        waits.penalty(13, 'm', 13);
        waits.sit();
        waits.penalty(2, 'm', 2);
        waits.penalty(12, 'm', 12);
        waits.sit();
        Hall.due("one ahead that counts and waits is one", waits.running(0, true) + waits.running(1, true), 0);
        Hall.due("one that has ended is no hindrance", ended.running(0, true), 1);
        Hall.due("one of a tenth is one", still.running(0, true), 0);
    }

    private static void majorsCancel() {
        Blueline hall = Hall.begun(4);
        hall.penalty(2, 'M', 2);
        hall.penalty(3, 'M', 3);
        hall.penalty(12, 'X', 13);
        hall.sit();
        Hall.due("the earlier one does not count", hall.running(0, false), 1);
        Hall.due("the later one counts", hall.running(0, true), 1);
        Hall.due("also by X", hall.running(1, false), 1);
        Hall.due("may be 5", hall.may(1), 5);
        hall.faceOff(1);
        hall.run(3000);
        Hall.due("who cancelled waits", hall.placeOf(2), -2);
        Hall.due("who counted is on the ice", hall.placeOf(3), 1);
    }

    private static void oneMajorOfEachSide() {
        Blueline hall = Hall.begun(0);
        hall.penalty(2, 'M', 2);
        hall.penalty(12, 'X', 13);
        hall.sit();
        Hall.due("of home", hall.running(0, false), 1);
        Hall.due("of away", hall.running(1, false), 1);
        Hall.due("none counts", hall.running(0, true) + hall.running(1, true), 0);
        Blueline unlike = Hall.begun(0);
        unlike.penalty(2, 'M', 2);
        unlike.penalty(12, '2', 12);
        unlike.penalty(13, 'x', 13);
        unlike.sit();
        Hall.due("a major and two minors count", unlike.running(0, true) + unlike.running(1, true), 2);
        Hall.due("the second minor waits", unlike.waiting(1), 1);
        Blueline later = Hall.begun(0);
        later.penalty(2, 'M', 2);
        later.penalty(12, 'M', 12);
        later.sit();
        later.penalty(3, 'M', 3);
        later.sit();
        Hall.due("those that cancelled cancel no later one", later.running(0, true), 1);
        Blueline earlier = Hall.begun(0);
        earlier.penalty(2, 'm', 2);
        earlier.penalty(3, 'M', 3);
        earlier.penalty(4, 'm', 4);
        earlier.penalty(5, 'M', 5);
        earlier.penalty(12, 'M', 12);
        earlier.penalty(13, 'm', 13);
        earlier.faceOff(1);
        Hall.due("the earlier ones do not count", earlier.running(0, false), 2);
        Hall.due("the later ones count", earlier.running(0, true), 2);
        earlier.run(3000);
        Hall.due("the earlier minor waits in the box", earlier.placeOf(2), -2);
        Hall.due("the earlier major, too", earlier.placeOf(3), -2);
        Hall.due("the later minor is on the ice", earlier.placeOf(4), 1);
        Hall.due("the later major, too", earlier.placeOf(5), 1);
    }

    // Promise 32: the minor for too many on the ice is one as others.
    private static void tooManyCancels() {
        Blueline hall = Hall.playing(0, 1);
        Hall.due("too many", hall.enter(7), 's');
        hall.penalty(12, 'm', 12);
        hall.sit();
        Hall.due("both do not count", hall.running(0, true) + hall.running(1, true), 0);
        Hall.due("both run", hall.running(0, false) + hall.running(1, false), 2);
        Hall.due("tally", hall.tally(7, 'p'), 1200);
        Blueline four = Hall.playing(4, 1);
        four.enter(7);
        four.penalty(12, 'm', 12);
        four.sit();
        Hall.due("by the edition 4 both count", four.running(0, true) + four.running(1, true), 2);
    }

    // Promises 33 and 43.
    private static void putOut() {
        Blueline hall = Hall.begun(0);
        hall.penalty(2, 'X', 3);
        Hall.due("on the ice until it begins", hall.placeOf(2), 1);
        hall.sit();
        Hall.due("out", hall.placeOf(2), -3);
        Hall.due("who serves is in the box", hall.placeOf(3), -2);
        Hall.due("tally of who is out", hall.tally(2, 'p'), 3000);
        Hall.due("left of who serves", hall.leftOf(3), 3000);
        Hall.impossible(hall, "who is out does not enter", 'b', 2, () -> hall.enter(2));
        Hall.impossible(hall, "nor change", 'b', 2, () -> hall.change(4, 2));
        hall.faceOff(1);
        hall.run(3000);
        Hall.due("who served is back", hall.placeOf(3), 1);
        Hall.due("who is out stays out", hall.placeOf(2), -3);
        Blueline bench = Hall.begun(0);
        bench.penalty(7, 'X', 8);
        bench.sit();
        Hall.due("out from the bench", bench.placeOf(7), -3);
    }

    // Promises 48 to 50: penalties of who is put out run on without anybody, still one behind the other.
    private static void putOutWhoServes() {
        Blueline hall = Hall.begun(0);
        hall.penalty(2, 'm', 2);
        hall.penalty(2, 'x', 2);
        hall.sit();
        hall.penalty(2, 'X', 3);
        hall.sit();
        Hall.due("out", hall.placeOf(2), -3);
        Hall.due("left of the minor and the misconduct", hall.leftOf(2), 7200);
        Hall.due("the minor and the major run", hall.running(0, true), 2);
        Hall.due("the misconduct does not run ahead of the minor's end", hall.running(0, false), 0);
        Hall.due("it waits", hall.waiting(0), 1);
        hall.faceOff(1);
        hall.run(1200);
        Hall.due("the minor ends", hall.running(0, true), 1);
        Hall.due("the misconduct runs then", hall.running(0, false), 1);
        Hall.due("nobody comes for it", hall.placeOf(2), -3);
        hall.run(6000);
        Hall.due("the misconduct ends", hall.running(0, false), 0);
        Hall.due("nothing left", hall.leftOf(2), 0);
        hall.stop();
        Hall.due("out behind a stop, too", hall.placeOf(2), -3);
    }

    // Promises 48 to 50: two minors of a server who is out as they run, or ahead of their beginning.
    private static void putOutServerOfMore() {
        Blueline two = Hall.begun(0);
        two.penalty(0, '2', 2);
        two.penalty(12, 'M', 12);
        two.penalty(2, 'X', 3);
        two.sit();
        Hall.due("one of the two minors runs", two.running(0, true), 1);
        Hall.due("the other one waits", two.waiting(0), 1);
        Hall.due("the major does not count", two.running(0, false), 1);
        two.faceOff(1);
        two.run(1200);
        Hall.due("the second one runs then", two.running(0, true), 1);
        Hall.due("none waits", two.waiting(0), 0);
        two.run(1200);
        Hall.due("both ended", two.running(0, true), 0);
        Hall.due("the server is out", two.placeOf(2), -3);
        Blueline ahead = Hall.begun(0);
        ahead.penalty(2, 'X', 3);
        ahead.penalty(2, 'm', 2);
        ahead.penalty(0, 'm', 2);
        ahead.sit();
        Hall.due("out ahead of its own minor", ahead.placeOf(2), -3);
        Hall.due("the major and one minor run", ahead.running(0, true), 2);
        Hall.due("the other minor waits", ahead.waiting(0), 1);
        Hall.due("left of both", ahead.leftOf(2), 2400);
        ahead.faceOff(1);
        ahead.run(1200);
        Hall.due("the other minor runs then", ahead.leftOf(2), 1200);
        Hall.due("with the major", ahead.running(0, true), 2);
        Blueline goal = Hall.begun(0);
        goal.penalty(2, '2', 2);
        goal.penalty(2, 'X', 3);
        goal.sit();
        Hall.scoreBy(goal, 12);
        Hall.due("a goal ends the first minor", goal.leftOf(2), 1200);
        Hall.due("and nobody comes to the bench", goal.placeOf(2), -3);
        Blueline both = Hall.begun(0);
        both.penalty(2, 'm', 2);
        both.penalty(3, 'm', 3);
        both.penalty(12, 'M', 12);
        both.penalty(13, 'M', 13);
        both.penalty(2, 'X', 4);
        both.penalty(3, 'X', 5);
        both.sit();
        Hall.due("those of two who are out run at once", both.running(0, true), 2);
    }

    private static void putOutGoalie() {
        Blueline hall = Hall.begun(0);
        hall.penalty(0, 'X', 3);
        hall.sit();
        Hall.due("the goalie is out", hall.placeOf(0), -3);
        Hall.due("without a goalie one more may", hall.may(0), 5);
        Hall.due("the other goalie enters", hall.enter(1), 's');
        Hall.due("then 4 may", hall.may(0), 4);
    }

    // Promises 24 and 47: at the end of a period.
    private static void endOfPeriod() {
        Blueline hall = Hall.begun(0);
        hall.penalty(2, 'x', 2);
        hall.faceOff(1);
        hall.run(6000);
        hall.penalty(3, 'M', 3);
        hall.penalty(12, 'M', 12);
        Hall.due("play goes on", hall.phase(), 'p');
        hall.run(6000);
        Hall.due("who waited is on the bench", hall.placeOf(2), -1);
        Hall.due("those called still wait", hall.waiting(0) + hall.waiting(1), 2);
        hall.faceOff(1);
        hall.run(2999);
        Hall.due("one tenth left", hall.leftOf(3), 1);
        Blueline over = Hall.begun(0);
        over.penalty(2, 'm', 2);
        over.faceOff(1);
        over.run(11000 + 1000);
        Hall.due("ended in the period", over.placeOf(2), 1);
        over.faceOff(1);
        over.run(11800);
        over.stop();
        over.penalty(2, 'm', 2);
        over.faceOff(1);
        over.run(200);
        Hall.due("goes on in the next period", over.leftOf(2), 1000);
        Hall.due("stays in the box", over.placeOf(2), -2);
    }

    // Promise 47: in overtime a penalty that ends.
    private static void overtimeEnds() {
        Blueline hall = Hall.begun(8);
        Hall.endThirdPeriod(hall);
        hall.penalty(2, 'm', 2);
        hall.faceOff(1);
        hall.enter(15);
        Hall.due("4 of away are on the ice", hall.phase(), 'p');
        Hall.due("2 of home and who is in the box", hall.may(0), 3);
        hall.run(1200);
        Hall.due("a third one of home", hall.placeOf(2), 1);
        Hall.due("away may be 3", hall.may(1), 3);
        Hall.due("the fourth one stays until a stop", hall.placeOf(15), 2);
        hall.stop();
        Hall.due("the stop sends off", hall.placeOf(15), -1);
        Blueline both = Hall.begun(4 + 8);
        Hall.endThirdPeriod(both);
        both.penalty(2, 'm', 2);
        both.penalty(12, 'm', 12);
        both.faceOff(1);
        both.enter(5);
        both.enter(15);
        Hall.due("3 of each side, 4 may be", both.may(0) * 10 + both.may(1), 44);
        both.run(1200);
        Hall.due("the side 0 ends first, while the other one is short", both.placeOf(2), 1);
        Hall.due("the side 1 ends when the first one is not short", both.placeOf(12), -1);
        Blueline away = Hall.begun(4 + 8);
        Hall.endThirdPeriod(away);
        away.penalty(12, 'm', 12);
        away.penalty(2, 'm', 2);
        away.faceOff(1);
        away.enter(5);
        away.enter(15);
        away.run(1200);
        Hall.due("the side 0 ends first, though called on later", away.placeOf(2), 1);
        Hall.due("the side 1 ends then", away.placeOf(12), -1);
    }

    private static void waitersInTheBox() {
        Blueline hall = Hall.begun(0);
        hall.penalty(2, 'x', 2);
        hall.penalty(0, 'm', 3);
        hall.faceOff(1);
        hall.run(1200);
        Hall.due("who served for the goalie is on the ice", hall.placeOf(3), 1);
        hall.run(4800);
        Hall.impossible(hall, "who waits in the box does not enter", 'b', 2, () -> hall.enter(2));
        Hall.impossible(hall, "nor serves for another one", 'v', 2, () -> hall.penalty(0, 'm', 2));
        Hall.due("but can be called on", hall.penalty(2, 'm', 2), 'p');
        hall.stop();
        Hall.due("is on the bench by the stop", hall.placeOf(2), -1);
        hall.sit();
        Hall.due("and in the box again", hall.placeOf(2), -2);
    }

    // Promises 24 and 49: penalties begin with shots.
    private static void beginWithShots() {
        Blueline hall = Hall.begun(16);
        for (int period = 1; period < 3; period++) {
            Hall.endPeriod(hall);
        }
        hall.faceOff(1);
        hall.penalty(2, 'm', 2);
        hall.run(12000);
        Hall.due("shots", hall.phase(), 'o');
        Hall.due("the called one began", hall.leftOf(2), 1200);
        Hall.due("in the box", hall.placeOf(2), -2);
        Hall.impossible(hall, "who is in the box does not shoot", 'v', 2, () -> hall.shoot(2, true));
        Hall.due("another one does", hall.shoot(3, true), 'o');
    }
}
