import java.util.NoSuchElementException;

/** The first and the last of all that is numbered: 6 clubs, 60 players, full line-ups, 200 events. */
public final class EdgeTest {
    private static final Class<?> INDEX = IndexOutOfBoundsException.class;
    private static final Class<?> ARGUMENT = IllegalArgumentException.class;
    private static final Class<?> STATE = IllegalStateException.class;
    private static final Class<?> UNSUPPORTED = UnsupportedOperationException.class;

    public static void main(String[] args) {
        allClubsAndPlayers();
        numbersBehindTheLast();
        sumWrapsAround();
        fullLineups();
        lastOfTheLineup();
        placeZero();
        firstOfTheLineupServes();
        firstOfTheLineupPlays();
        firstOfTheLineupIsOut();
        allShootTwice();
        lastPlace();
        lastEvent();
        everyEventBehindTheLast();
        lastEventOfAnyKind();
        penaltiesOfAllEvents();
        lettersBesideTheKinds();
        Hall.end("EdgeTest");
    }

    /**
     * Six clubs and 60 players, the hit of each is its number: the club 0 has the players 0 to 11, the club 5 those
     * from 48 on, 9 are of each other club; goalies are 5, 6, 53 and 54.
     */
    private static Blueline fullHall() {
        Blueline hall = new Blueline();
        for (int club = 0; club < 6; club++) {
            hall.club();
        }
        for (int player = 0; player < 60; player++) {
            hall.player(player == 5 || player == 6 || player == 53 || player == 54, player);
            hall.sign(player, player < 12 ? 0 : player >= 48 ? 5 : 1 + (player - 12) / 9);
        }
        return hall;
    }

    /** The clubs 0 and 5 with full line-ups; on the ice are 0 to 5 and 48 to 53. */
    private static Blueline fullMatch(int edition) {
        Blueline hall = fullHall();
        hall.match(0, 5, edition);
        for (int player = 0; player < 12; player++) {
            hall.dress(0, player);
            hall.dress(1, 48 + player);
        }
        hall.begin();
        return hall;
    }

    private static Blueline fullMatchPlaying(int edition, int place) {
        Blueline hall = fullMatch(edition);
        hall.faceOff(place);
        return hall;
    }

    // Promises 2, 3, 5, 12 to 18, 60 and 61.
    private static void allClubsAndPlayers() {
        Blueline hall = fullHall();
        Hall.refused(hall, "a 7th club", STATE, hall::club);
        Hall.refused(hall, "a 61st player", STATE, () -> hall.player(true, 999));
        Hall.due("club of the first", hall.clubOf(0), 0);
        Hall.due("club of the last", hall.clubOf(59), 5);
        Hall.due("payroll of the first", hall.payroll(0), 66);
        Hall.due("payroll of the last", hall.payroll(5), 642);
        Hall.due("status of the last", hall.statusOf(59), 'a');
        Hall.due("day", hall.pass(), 1);
        Hall.due("charge of the first", (Object) hall.charge(0), 66L);
        Hall.due("charge of the last", (Object) hall.charge(5), 642L);
        for (int rank = 0; rank < 6; rank++) {
            Hall.due("rank " + rank, hall.ranked(rank), rank);
            Hall.due("points " + rank, hall.points(rank), 0);
        }
        Hall.due("ban of the last", hall.ban(59, 40), 40);
        Hall.due("tally of the last", hall.tally(59, 'p'), 0);
        Hall.due("the last one for the first one", hall.trade(59, 0), 66 + 59);
        Hall.due("the last one is down", hall.down(59), true);
        Hall.due("the last one is back", hall.recall(59), 66 + 59);
        Hall.due("the last one is injured", hall.injure(59, true), 'a');
        Hall.due("the last one is free", hall.release(59), 0);
        Hall.due("a hit of 0 is signed", hall.release(0), 5);
        Hall.due("the payroll stays", hall.sign(0, 5), 642 - 59);
        Hall.due("the ban stays", hall.banOf(59), 40);
    }

    private static void numbersBehindTheLast() {
        Blueline hall = fullMatch(0);
        for (int wrong : new int[] {-1, 60, Integer.MIN_VALUE, Integer.MAX_VALUE}) {
            Hall.Call[] calls = {() -> hall.sign(wrong, 0), () -> hall.release(wrong), () -> hall.trade(wrong, 0),
                () -> hall.trade(0, wrong), () -> hall.injure(wrong, true), () -> hall.down(wrong),
                () -> hall.recall(wrong), () -> hall.claim(0, wrong), () -> hall.ban(wrong, 0),
                () -> hall.banOf(wrong), () -> hall.statusOf(wrong), () -> hall.clubOf(wrong),
                () -> hall.dress(0, wrong), () -> hall.go(wrong, 0), () -> hall.touch(wrong),
                () -> hall.change(wrong, 7), () -> hall.change(0, wrong), () -> hall.leave(wrong),
                () -> hall.enter(wrong), () -> hall.penalty(wrong, 'm', 0), () -> hall.penalty(0, 'm', wrong),
                () -> hall.goal(wrong, -1, -1), () -> hall.shoot(wrong, true), () -> hall.placeOf(wrong),
                () -> hall.leftOf(wrong), () -> hall.tally(wrong, 'g')};
            for (int i = 0; i < calls.length; i++) {
                Hall.refused(hall, "no player " + wrong + ", call " + i, INDEX, calls[i]);
            }
        }
        for (int wrong : new int[] {-1, 6, Integer.MIN_VALUE, Integer.MAX_VALUE}) {
            Hall.Call[] calls = {() -> hall.sign(59, wrong), () -> hall.claim(wrong, 0), () -> hall.payroll(wrong),
                () -> hall.charge(wrong), () -> hall.match(wrong, 0, 0), () -> hall.match(0, wrong, 0),
                () -> hall.points(wrong), () -> hall.ranked(wrong), () -> hall.wonShare(wrong)};
            for (int i = 0; i < calls.length; i++) {
                Hall.refused(hall, "no club " + wrong + ", call " + i, INDEX, calls[i]);
            }
        }
    }

    // Promise 64: 31 to the power of 66 is far beyond a long.
    private static void sumWrapsAround() {
        Blueline hall = fullMatch(0);
        hall.ban(59, 40);
        hall.ban(0, 1);
        hall.faceOff(3);
        hall.touch(0);
        hall.goal(0, 1, 2);
        hall.pass();
        long sum = 7;
        for (int player = 0; player < 60; player++) {
            int club = player < 12 ? 0 : player >= 48 ? 5 : 1 + (player - 12) / 9;
            int ban = player == 59 ? 40 : player == 0 ? 1 : 0;
            int plus = player < 5 ? 1 : player >= 48 && player < 53 ? -1 : 0;
            sum = 31 * sum + club + 1 + 10 * ban + 100 * plus;
        }
        for (int club = 0; club < 6; club++) {
            sum = 31 * sum + hall.payroll(club);
        }
        Hall.due("the sum wraps around", (Object) hall.checksum(), sum);
    }

    // Promises 20, 21 and 43.
    private static void fullLineups() {
        Blueline hall = fullHall();
        hall.match(5, 0, 31);
        for (int player = 0; player < 12; player++) {
            Hall.due("home has", hall.dress(0, 48 + player), player + 1);
            Hall.due("away has", hall.dress(1, player), player + 1);
        }
        Hall.due("begin", hall.begin(), 12);
        for (int player = 0; player < 12; player++) {
            Hall.due("home " + player, hall.placeOf(48 + player), player < 6 ? 1 : -1);
            Hall.due("away " + player, hall.placeOf(player), player < 6 ? 2 : -1);
        }
        for (int player = 12; player < 48; player++) {
            Hall.due("in no line-up " + player, hall.placeOf(player), -4);
            Hall.due("nothing to serve " + player, hall.leftOf(player), 0);
        }
        Blueline full = fullHall();
        full.match(0, 5, 0);
        full.release(59);
        full.release(11);
        full.sign(11, 5);
        full.sign(59, 0);
        for (int player = 0; player < 11; player++) {
            full.dress(0, player);
        }
        full.trade(12, 47);
        Hall.due("a 12th one", full.dress(0, 59), 12);
        full.release(12);
        full.sign(12, 0);
        Hall.refused(full, "a 13th one", UNSUPPORTED, () -> full.dress(0, 12));
        Hall.due("the other side has room", full.dress(1, 11), 1);
    }

    // "As a match is stopped": who comes last in a full line-up goes first, also from the place 0.
    private static void lastOfTheLineup() {
        Blueline hall = fullMatchPlaying(0, 0);
        hall.change(3, 11);
        hall.leave(5);
        hall.enter(10);
        hall.change(51, 59);
        hall.leave(53);
        hall.enter(58);
        Hall.due("home may be 6", hall.may(0), 6);
        hall.enter(6);
        hall.enter(54);
        Hall.due("the last ones are at the place 0", hall.placeOf(11) + hall.placeOf(59), 0);
        hall.stop();
        Hall.due("the last one of home goes", hall.placeOf(11), -1);
        Hall.due("the last but one of home stays", hall.placeOf(10), 1);
        Hall.due("the last one of away goes", hall.placeOf(59), -1);
        Hall.due("the last but one of away stays", hall.placeOf(58), 2);
        Hall.due("the last one enters for one who leaves", hall.leave(0), 's');
        Hall.due("then as many as may be", hall.enter(11), 's');
        Hall.impossible(hall, "one more", 'n', 5, () -> hall.enter(0));
    }

    // Promises 23, 32 and 47: who is at the place 0 is on the ice.
    private static void placeZero() {
        Blueline hall = fullMatchPlaying(0, 0);
        Hall.due("the goalie is on the ice", hall.may(0), 5);
        Hall.due("the other goalie, too", hall.may(1), 5);
        Hall.impossible(hall, "a second goalie", 'g', 6, () -> hall.enter(6));
        Hall.impossible(hall, "not on the bench", 'b', 0, () -> hall.enter(0));
        hall.stop();
        Hall.impossible(hall, "a sixth skater", 'n', 5, () -> hall.enter(7));
        Hall.due("to the next place", hall.faceOff(2), 'p');
        for (int player = 0; player < 6; player++) {
            Hall.due("goes along", hall.placeOf(player) * 10 + hall.placeOf(48 + player), 22);
        }
        Blueline sitting = fullMatchPlaying(0, 0);
        sitting.stop();
        sitting.penalty(11, 'm', 11);
        sitting.sit();
        Hall.due("sent off from the place 0", sitting.placeOf(4), -1);
        Hall.due("one only", sitting.placeOf(3), 0);
    }

    // Promises 33, 43, 48 and 50: the player 0, the first of the first line-up.
    private static void firstOfTheLineupServes() {
        Blueline hall = fullMatch(0);
        hall.penalty(0, 'm', 0);
        hall.penalty(1, 'm', 1);
        hall.penalty(5, 'x', 2);
        hall.sit();
        Hall.due("both run", hall.running(0, true), 2);
        Hall.due("none waits", hall.waiting(0), 0);
        Hall.due("left", hall.leftOf(0), 1200);
        Hall.due("in the box", hall.placeOf(0), -2);
        hall.faceOff(1);
        hall.run(1200);
        Hall.due("on the ice again", hall.placeOf(0), 1);
        Blueline server = fullMatch(0);
        Hall.due("serves for a goalie", server.penalty(5, 'x', 0), 's');
        Hall.due("and for who is put out", server.penalty(1, 'X', 0), 's');
        server.faceOff(1);
        Hall.due("left of both", server.leftOf(0), 9000);
        Hall.due("the later one waits", server.waiting(0), 1);
        Blueline waits = fullMatch(0);
        waits.penalty(0, 'x', 0);
        waits.faceOff(0);
        waits.run(6000);
        Hall.due("waits in the box", waits.placeOf(0), -2);
        waits.stop();
        Hall.due("on the bench", waits.placeOf(0), -1);
        Hall.due("the tally of the first", waits.tally(0, 'p'), 6000);
    }

    // Promises 26, 28, 35, 46 and 59.
    private static void firstOfTheLineupPlays() {
        Blueline hall = fullMatchPlaying(1, 2);
        hall.touch(0);
        Hall.due("carries", hall.carry(2), 'p');
        hall.touch(1);
        hall.go(0, 3);
        Hall.due("is at the far end", hall.carry(3), 'p');
        Hall.due("offside", hall.isOffside(0), true);
        hall.go(1, 2);
        Hall.due("offside as long as the first one is there", hall.isOffside(0), true);
        hall.go(0, 2);
        Hall.due("offside no more", hall.isOffside(0), false);
        hall.go(0, 3);
        hall.touch(0);
        Hall.due("scores", hall.goal(0, 1, 2), 's');
        Hall.due("goals", hall.tally(0, 'g'), 1);
        Hall.due("plus", hall.tally(0, '+'), 1);
        Blueline assists = fullMatchPlaying(0, 0);
        assists.touch(52);
        Hall.due("the last ones score", assists.goal(52, 51, 50), 's');
        Hall.due("minus of the first", assists.tally(0, '+'), -1);
        assists.faceOff(3);
        assists.touch(1);
        Hall.due("first assist of the player 0", assists.goal(1, 0, 2), 's');
        assists.faceOff(3);
        assists.touch(1);
        Hall.due("second assist of the player 0", assists.goal(1, 2, 0), 's');
        Hall.due("assists", assists.tally(0, 'a'), 2);
        Hall.due("plus of three goals", assists.tally(0, '+'), 1);
        Hall.due("goals of two", assists.tally(1, 'g'), 2);
    }

    // Promises 33, 38 and 43.
    private static void firstOfTheLineupIsOut() {
        Blueline hall = fullMatch(0);
        hall.penalty(0, 'X', 11);
        hall.penalty(59, 'X', 48);
        hall.ban(0, 5);
        Hall.endThirdPeriod(hall);
        Hall.due("out", hall.placeOf(0), -3);
        Hall.due("the last one is out", hall.placeOf(59), -3);
        hall.close();
        Hall.due("2 matches more", hall.banOf(0), 7);
        Hall.due("2 matches of the last", hall.banOf(59), 2);
        Hall.due("none of who served", hall.banOf(11) + hall.banOf(48), 0);
        Hall.due("tally of the first", hall.tally(0, 'p'), 3000);
        Hall.due("tally of the last", hall.tally(59, 'p'), 3000);
        Hall.due("points of the last club", hall.points(5), 1);
        hall.match(0, 5, 0);
        for (int player = 1; player < 9; player++) {
            hall.dress(0, player);
            hall.dress(1, 48 + player);
        }
        Hall.refused(hall, "the first one is banned", UNSUPPORTED, () -> hall.dress(0, 0));
        hall.begin();
        Hall.endThirdPeriod(hall);
        hall.close();
        Hall.due("one less", hall.banOf(0), 6);
        Hall.due("one less of the last", hall.banOf(59), 1);
    }

    // Promise 37: all 10 skaters of each side shoot once, and only then the first ones again.
    private static void allShootTwice() {
        Blueline hall = fullMatch(16);
        Hall.endThirdPeriod(hall);
        int[] skaters = {11, 0, 1, 2, 3, 4, 7, 8, 9, 10};
        for (int round = 0; round < 2; round++) {
            for (int skater : skaters) {
                Hall.due("home shoots " + skater, hall.shoot(skater, false), 'o');
                Hall.due("away shoots " + skater, hall.shoot(48 + skater, false), 'o');
                if (skater != 10) {
                    Hall.impossible(hall, "11 took one more than others", 'v', 11, () -> hall.shoot(11, true));
                }
            }
        }
        Hall.due("shots of home", hall.shots(0, false), 20);
        Hall.due("shots of away", hall.shots(1, false), 20);
        hall.shoot(0, false);
        Hall.due("the 21st of away is a goal", hall.shoot(59, true), 'e');
    }

    // Promises 23 to 28: the places 0 and 3.
    private static void lastPlace() {
        for (int place = 0; place < 4; place++) {
            Blueline hall = fullMatch(0);
            Hall.due("face-off at " + place, hall.faceOff(place), 'p');
            Hall.due("goes to " + (3 - place), hall.go(5, 3 - place), 'p');
            Hall.due("is there", hall.placeOf(5), 3 - place);
            Hall.due("puck", hall.puck(), place);
            hall.touch(0);
            Hall.due("carried to the same place", hall.carry(place), 'p');
            Hall.due("sent to the same place", hall.send(place), 'p');
            hall.touch(48);
            Hall.due("none is in the way to " + (3 - place), hall.carry(3 - place), 'p');
            Hall.due("puck then", hall.puck(), 3 - place);
        }
    }

    /** A match of 199 events, playing, with the puck at home's far end and home having it. */
    private static Blueline of199() {
        Blueline hall = Hall.playing(0, 3);
        hall.touch(2);
        while (hall.events() < 199) {
            hall.go(8 - hall.events() % 2 - 2, 3);
        }
        return hall;
    }

    // Promises 35 and 52 to 56.
    private static void lastEvent() {
        Blueline hall = of199();
        Hall.refused(hall, "no event 199", INDEX, () -> hall.eventAt(199));
        Hall.due("the 200th event", hall.goal(2, 3, 4), 's');
        Hall.due("events", hall.events(), 200);
        Hall.due("the event 199", hall.eventAt(199), 'G');
        Hall.refused(hall, "no event 200", INDEX, () -> hall.eventAt(200));
        Hall.refused(hall, "no event 200 to strike", INDEX, () -> hall.strike(200));
        Hall.refused(hall, "no event 200 to amend", INDEX, () -> hall.amend(200, 3, 3));
        Hall.due("the event 199 is amended", hall.amend(199, 5, -1), 200);
        Hall.due("assist", hall.tally(5, 'a'), 1);
        Hall.due("played again", hall.again(31, 0), 1);
        Hall.refused(hall, "no review behind it", STATE, () -> hall.review('k'));
        Hall.due("strike the last one", hall.strike(199), 199);
        Hall.due("the goal is gone", hall.score(0), 0);
        Hall.due("another 200th event", hall.stop(), 's');
        Hall.due("all goes with the first one", hall.strike(0), 0);
        Hall.refused(hall, "no event 0", INDEX, () -> hall.strike(0));
        Hall.refused(hall, "no event 0 to amend", INDEX, () -> hall.amend(0, -1, -1));
        Hall.refused(hall, "no event 0 to tell", INDEX, () -> hall.eventAt(0));
    }

    // Promises 22 to 37: with 200 events arguments and what is not possible go first.
    private static void everyEventBehindTheLast() {
        Blueline hall = of199();
        hall.go(2, 3);
        Hall.Call[] calls = {() -> hall.run(1), () -> hall.go(2, 0), () -> hall.touch(2), () -> hall.send(2),
            () -> hall.carry(2), () -> hall.change(2, 7), () -> hall.leave(2), () -> hall.enter(7),
            () -> hall.penalty(2, 'm', 2), hall::stop, () -> hall.goal(2, -1, -1)};
        for (int i = 0; i < calls.length; i++) {
            Hall.refused(hall, "a 201st event, call " + i, STATE, calls[i]);
        }
        Hall.due("none was not possible", (Object) Hall.thrownBy(hall::why), NoSuchElementException.class);
        Hall.refused(hall, "no such place", ARGUMENT, () -> hall.go(2, 4));
        Hall.refused(hall, "no such player", INDEX, () -> hall.go(20, 4));
        Hall.refused(hall, "no such tenths", ARGUMENT, () -> hall.run(12001));
        Hall.refused(hall, "no such kind", ARGUMENT, () -> hall.penalty(7, 'n', 8));
        Hall.refused(hall, "no such review", ARGUMENT, () -> hall.review('n'));
        Hall.refused(hall, "the scorer twice", ARGUMENT, () -> hall.goal(2, 2, -1));
        Hall.impossible(hall, "not on the ice", 'i', 7, () -> hall.leave(7));
        Hall.impossible(hall, "no shots", 's', 'p', () -> hall.shoot(2, true));
        Hall.impossible(hall, "no race", 's', 'p', () -> hall.race(0));
        Hall.impossible(hall, "no sitting", 's', 'p', hall::sit);
        Blueline stopped = of199();
        stopped.stop();
        Hall.refused(stopped, "a 201st face-off", STATE, () -> stopped.faceOff(1));
        Hall.refused(stopped, "a 201st sitting", STATE, stopped::sit);
        Hall.refused(stopped, "no such place of a face-off", ARGUMENT, () -> stopped.faceOff(4));
    }

    // Promises 29, 37 and 38: the 200th event is a race, a shot, the end of the match.
    private static void lastEventOfAnyKind() {
        Blueline racing = Hall.playing(2, 1);
        racing.touch(2);
        while (racing.events() < 199) {
            racing.go(2, 1);
        }
        racing.send(3);
        Hall.refused(racing, "a 201st event is a race", STATE, () -> racing.race(0));
        racing.strike(5);
        Hall.due("the 200th one is", racing.race(0), 'p');
        Blueline shots = Hall.playing(16, 1);
        while (shots.events() < 192) {
            shots.go(2, 1);
        }
        shots.run(12000);
        Hall.endThirdPeriod(shots);
        for (int shot = 0; shot < 3; shot++) {
            shots.shoot(shot % 2 * 10 + 2 + shot / 2, false);
        }
        Hall.due("200 events", shots.events(), 200);
        Hall.refused(shots, "a 201st event is a shot", STATE, () -> shots.shoot(13, true));
        Hall.refused(shots, "shots have not ended", STATE, shots::close);
        Blueline ended = Hall.playing(0, 1);
        while (ended.events() < 195) {
            ended.go(2, 1);
        }
        ended.run(12000);
        Hall.endThirdPeriod(ended);
        Hall.due("the 200th event ends the match", "" + ended.events() + ended.phase(), "200e");
        Hall.due("it is closed", ended.close(), 1);
    }

    // Promises 33, 49 and 50: as many penalties as 200 events can call.
    private static void penaltiesOfAllEvents() {
        Blueline hall = fullMatch(0);
        for (int call = 1; call < 200; call++) {
            hall.penalty(0, '2', 0);
        }
        Hall.due("199 wait", hall.waiting(0), 199);
        hall.sit();
        Hall.due("397 wait", hall.waiting(0), 397);
        Hall.due("one runs", hall.running(0, true), 1);
        Hall.due("left", hall.leftOf(0), 398 * 1200);
        Hall.due("tally", hall.tally(0, 'p'), 398 * 1200);
        Hall.due("sound", hall.isSound(), true);
        Hall.due("strike one", hall.strike(198), 199);
        Hall.due("left then", hall.leftOf(0), 396 * 1200);
        Hall.due("one more", hall.penalty(0, 'M', 0), 's');
        Hall.due("waits, too", hall.waiting(0), 396);
        Blueline calls = fullMatch(0);
        for (int call = 0; call < 200; call++) {
            calls.penalty(59, 'x', 59);
        }
        Hall.due("200 wait", calls.waiting(1), 200);
        Hall.refused(calls, "no event is left to sit", STATE, calls::sit);
    }

    // Promises 33, 36 and 59: letters beside those that are there.
    private static void lettersBesideTheKinds() {
        Blueline hall = Hall.playing(0, 3);
        hall.touch(2);
        hall.goal(2, -1, -1);
        for (char kind = 0; kind < 256; kind++) {
            char letter = kind;
            if ("m2MxX".indexOf(kind) < 0) {
                Hall.refused(hall, "penalty " + (int) kind, ARGUMENT, () -> hall.penalty(9, letter, 9));
            }
            if ("ko".indexOf(kind) < 0) {
                Hall.refused(hall, "review " + (int) kind, ARGUMENT, () -> hall.review(letter));
            }
            if ("ga+p".indexOf(kind) < 0) {
                Hall.refused(hall, "tally " + (int) kind, ARGUMENT, () -> hall.tally(2, letter));
            }
        }
        // The sign beyond one byte whose last byte is that of 'm'.
        Hall.refused(hall, "penalty beyond a byte", ARGUMENT, () -> hall.penalty(2, (char) ('m' + 256), 2));
        Hall.refused(hall, "review beyond a byte", ARGUMENT, () -> hall.review((char) ('k' + 256)));
        Hall.refused(hall, "tally beyond a byte", ARGUMENT, () -> hall.tally(2, (char) ('g' + 256)));
        Hall.due("the goal can still be reviewed", hall.review('k'), 's');
    }
}
