/** Promises 1 to 18: clubs, players, the cap, waivers, bans and charges. */
public final class RosterTest {
    private static final Class<?> INDEX = IndexOutOfBoundsException.class;
    private static final Class<?> ARGUMENT = IllegalArgumentException.class;
    private static final Class<?> STATE = IllegalStateException.class;
    private static final Class<?> UNSUPPORTED = UnsupportedOperationException.class;

    public static void main(String[] args) {
        newObject();
        clubs();
        players();
        caps();
        signing();
        signingUpToTheFirstCap();
        releasing();
        trading();
        injuring();
        sendingDown();
        recalling();
        claiming();
        passing();
        waiversEnd();
        waiversOfTheFirst();
        waiversUpToTheCap();
        banning();
        numbersOutOfRange();
        lineupsAreLocked();
        Hall.end("RosterTest");
    }

    // Promise 1.
    private static void newObject() {
        Blueline hall = new Blueline();
        Hall.due("new phase", hall.phase(), '-');
        Hall.due("new checksum", (Object) hall.checksum(), 7L);
        Hall.due("new isSound", hall.isSound(), true);
        Hall.refused(hall, "new clubOf(0)", INDEX, () -> hall.clubOf(0));
        Hall.refused(hall, "new payroll(0)", INDEX, () -> hall.payroll(0));
        Hall.refused(hall, "new ranked(0)", INDEX, () -> hall.ranked(0));
        Hall.due("the first pass tells day 1", hall.pass(), 1);
    }

    // Promise 2.
    private static void clubs() {
        Blueline hall = new Blueline();
        for (int club = 0; club < 6; club++) {
            Hall.due("club", hall.club(), club);
        }
        Hall.refused(hall, "7th club", STATE, hall::club);
    }

    // Promise 3.
    private static void players() {
        Blueline hall = new Blueline();
        Hall.refused(hall, "hit -1", ARGUMENT, () -> hall.player(false, -1));
        Hall.refused(hall, "hit 1000", ARGUMENT, () -> hall.player(true, 1000));
        for (int player = 0; player < 60; player++) {
            Hall.due("player", hall.player(player % 2 == 0, player == 0 ? 0 : 999), player);
        }
        Hall.due("of no club", hall.clubOf(59), -1);
        Hall.due("status of no club", hall.statusOf(59), 'n');
        Hall.refused(hall, "61st player", STATE, () -> hall.player(false, 5));
        Hall.refused(hall, "61st player of a wrong hit", ARGUMENT, () -> hall.player(false, 1000));
    }

    // Promise 4.
    private static void caps() {
        Blueline hall = new Blueline();
        Hall.due("first cap", hall.setCap(0), 5000);
        Hall.due("second cap", hall.setCap(9999), 0);
        Hall.refused(hall, "cap -1", ARGUMENT, () -> hall.setCap(-1));
        Hall.refused(hall, "cap 10000", ARGUMENT, () -> hall.setCap(10000));
        Hall.due("cap behind refusals", hall.setCap(1), 9999);
    }

    // Promises 5 and 17.
    private static void signing() {
        Blueline hall = new Blueline();
        hall.club();
        hall.club();
        for (int player = 0; player < 8; player++) {
            hall.player(false, player < 5 ? 999 : player - 5);
        }
        hall.setCap(5000 - 5);
        for (int player = 0; player < 5; player++) {
            Hall.due("sign", hall.sign(player, 0), 999 * (player + 1));
        }
        Hall.due("a hit of 0 at the cap", hall.sign(5, 0), 4995);
        Hall.refused(hall, "sign above the cap", UNSUPPORTED, () -> hall.sign(6, 0));
        Hall.refused(hall, "sign one of a club", UNSUPPORTED, () -> hall.sign(0, 1));
        Hall.refused(hall, "sign one of this club", UNSUPPORTED, () -> hall.sign(0, 0));
        Hall.due("sign to the other one", hall.sign(6, 1), 1);
        Hall.due("payroll 0", hall.payroll(0), 4995);
        Hall.due("payroll 1", hall.payroll(1), 1);
        Hall.due("status", hall.statusOf(6), 'a');
        Hall.due("club", hall.clubOf(6), 1);
        Blueline low = new Blueline();
        low.club();
        low.player(false, 10);
        low.player(false, 0);
        low.sign(0, 0);
        low.setCap(9);
        Hall.refused(low, "a hit of 0 above the cap", UNSUPPORTED, () -> low.sign(1, 0));
        Hall.due("above a lowered cap all is sound", low.isSound(), true);
    }

    private static void signingUpToTheFirstCap() {
        Blueline hall = new Blueline();
        hall.club();
        for (int player = 0; player < 8; player++) {
            hall.player(false, player < 5 ? 999 : player - 1);
            if (player < 5) {
                hall.sign(player, 0);
            }
        }
        Hall.refused(hall, "5001", UNSUPPORTED, () -> hall.sign(7, 0));
        Hall.due("4999", hall.sign(5, 0), 4999);
        Hall.refused(hall, "5 more", UNSUPPORTED, () -> hall.sign(6, 0));
        hall.release(5);
        Hall.due("5000", hall.sign(6, 0), 5000);
        Hall.due("all is sound at the cap", hall.isSound(), true);
    }

    // Promise 6.
    private static void releasing() {
        Blueline hall = Hall.twoClubs();
        int before = hall.payroll(1);
        Hall.due("release", hall.release(12), 1);
        Hall.due("payroll then", hall.payroll(1), before - 112);
        Hall.due("status then", hall.statusOf(12), 'n');
        Hall.due("club then", hall.clubOf(12), -1);
        Hall.refused(hall, "release one of none", UNSUPPORTED, () -> hall.release(12));
        hall.injure(13, true);
        Hall.due("release an injured one", hall.release(13), 1);
        Hall.due("sign again", hall.sign(13, 0), hall.payroll(0));
        Hall.due("active again", hall.statusOf(13), 'a');
    }

    // Promise 7.
    private static void trading() {
        Blueline hall = Hall.twoClubs();
        int home = hall.payroll(0);
        int away = hall.payroll(1);
        Hall.due("trade", hall.trade(2, 15), away - 115 + 102);
        Hall.due("payroll of the other one", hall.payroll(0), home - 102 + 115);
        Hall.due("club of the first", hall.clubOf(2), 1);
        Hall.due("club of the second", hall.clubOf(15), 0);
        Hall.refused(hall, "trade in one club", UNSUPPORTED, () -> hall.trade(3, 4));
        Hall.refused(hall, "trade with itself", UNSUPPORTED, () -> hall.trade(3, 3));
        Hall.refused(hall, "trade for one of none", UNSUPPORTED, () -> hall.trade(3, 9));
        Hall.refused(hall, "trade one of none", UNSUPPORTED, () -> hall.trade(9, 3));
        Hall.refused(hall, "trade two of none", UNSUPPORTED, () -> hall.trade(9, 19));
        hall.injure(3, true);
        hall.down(13);
        Hall.due("trade who do not count", hall.trade(3, 13), hall.payroll(1));
        Hall.due("stays injured", hall.statusOf(3), 'i');
        Hall.due("stays down", hall.statusOf(13), 'd');
        Hall.due("is of the new club", hall.clubOf(13), 0);
        tradingAtTheCap();
    }

    private static void tradingAtTheCap() {
        Blueline hall = new Blueline();
        hall.club();
        hall.club();
        int[] hits = {100, 200, 300, 0, 0};
        for (int player = 0; player < 5; player++) {
            hall.player(false, hits[player]);
            hall.sign(player, player == 2 || player == 4 ? 1 : 0);
        }
        hall.setCap(499);
        Hall.refused(hall, "the payroll of the first one's club would be 500", UNSUPPORTED, () -> hall.trade(0, 2));
        Hall.refused(hall, "the payroll of the other one's club would be 500", UNSUPPORTED, () -> hall.trade(2, 0));
        hall.setCap(500);
        Hall.due("up to the cap", hall.trade(0, 2), 100);
        hall.setCap(400);
        hall.trade(1, 0);
        hall.setCap(399);
        int dearer = hall.player(false, 101);
        hall.sign(dearer, 1);
        Hall.refused(hall, "a rise by 1 above the cap", UNSUPPORTED, () -> hall.trade(0, dearer));
        hall.release(dearer);
        hall.setCap(5000);
        hall.trade(0, 1);
        hall.setCap(300);
        hall.injure(0, true);
        hall.trade(0, 3);
        Hall.due("one who is injured costs nothing", hall.payroll(1), 0);
        hall.trade(3, 0);
        hall.injure(0, false);
        Hall.due("no payroll rises, though one is above the cap", hall.trade(3, 4), 100);
        Hall.due("a payroll falls, though it stays above the cap", hall.trade(1, 0), 200);
        Hall.due("it stays above the cap", hall.payroll(0), 400);
        tradingForNothing();
    }

    // An active player of hit 0 for an injured one: no payroll rises, though one is above the cap.
    private static void tradingForNothing() {
        Blueline hall = new Blueline();
        hall.club();
        hall.club();
        int[] hits = {100, 50, 0};
        for (int player = 0; player < 3; player++) {
            hall.player(false, hits[player]);
            hall.sign(player, player == 2 ? 1 : 0);
        }
        hall.injure(1, true);
        hall.setCap(99);
        Hall.due("trade", hall.trade(1, 2), 0);
        Hall.due("payroll of the other one", hall.payroll(0), 100);
        int free = hall.player(false, 0);
        Hall.refused(hall, "signed above the cap", UNSUPPORTED, () -> hall.sign(free, 0));
    }

    // Promise 8.
    private static void injuring() {
        Blueline hall = Hall.twoClubs();
        int before = hall.payroll(0);
        Hall.due("injure an active one", hall.injure(2, true), 'a');
        Hall.due("injured", hall.statusOf(2), 'i');
        Hall.due("payroll without", hall.payroll(0), before - 102);
        Hall.due("injure an injured one", hall.injure(2, true), 'i');
        Hall.due("active again", hall.injure(2, false), 'i');
        Hall.due("payroll with", hall.payroll(0), before);
        Hall.due("active one told active", hall.injure(2, false), 'a');
        hall.down(3);
        Hall.due("injure one who is down", hall.injure(3, true), 'd');
        hall.injure(3, false);
        hall.down(3);
        Hall.due("one who is down told active", hall.injure(3, false), 'd');
        Hall.due("who was down is active", hall.statusOf(3), 'a');
        Hall.refused(hall, "injure one of no club", UNSUPPORTED, () -> hall.injure(9, true));
        Hall.refused(hall, "one of no club told active", UNSUPPORTED, () -> hall.injure(9, false));
        hall.injure(2, true);
        hall.down(3);
        hall.setCap(hall.payroll(0) + 101);
        Hall.refused(hall, "active above the cap", UNSUPPORTED, () -> hall.injure(2, false));
        Hall.refused(hall, "who is down active above the cap", UNSUPPORTED, () -> hall.injure(3, false));
        hall.setCap(hall.payroll(0) + 102);
        Hall.refused(hall, "who is down active 1 above the cap", UNSUPPORTED, () -> hall.injure(3, false));
        Hall.due("active up to the cap", hall.injure(2, false), 'i');
        hall.setCap(hall.payroll(0) + 103);
        Hall.due("who is down active up to the cap", hall.injure(3, false), 'd');
        hall.injure(2, true);
        hall.setCap(0);
        Hall.due("injuring adds nothing", hall.injure(4, true), 'a');
        Hall.due("an active one told active adds nothing", hall.injure(5, false), 'a');
    }

    // Promise 9.
    private static void sendingDown() {
        Blueline hall = Hall.twoClubs();
        int before = hall.payroll(0);
        Hall.due("down at once", hall.down(2), true);
        Hall.due("is down", hall.statusOf(2), 'd');
        Hall.due("payroll without", hall.payroll(0), before - 102);
        Hall.refused(hall, "down again", UNSUPPORTED, () -> hall.down(2));
        hall.injure(3, true);
        Hall.refused(hall, "an injured one", UNSUPPORTED, () -> hall.down(3));
        Hall.refused(hall, "one of no club", UNSUPPORTED, () -> hall.down(9));
        Blueline played = threeMatches();
        Hall.due("on waivers behind 3 matches", played.down(2), false);
        Hall.due("is on waivers", played.statusOf(2), 'w');
        Hall.due("payroll still with", played.payroll(0), before);
        Hall.refused(played, "on waivers already", UNSUPPORTED, () -> played.down(2));
        Hall.due("who played less is down at once", played.down(8), true);
        Hall.due("told active", played.injure(2, false), 'a');
        Hall.due("stays on waivers", played.statusOf(2), 'w');
        Hall.due("injured on waivers", played.injure(2, true), 'a');
        Hall.due("is injured then", played.statusOf(2), 'i');
        played.injure(2, false);
        Hall.due("is on no waivers then", played.statusOf(2), 'a');
    }

    /** Three closed matches of the clubs 0 and 1; the player 8 was in the line-ups of two only. */
    private static Blueline threeMatches() {
        Blueline hall = Hall.twoClubs();
        hall.club();
        hall.club();
        for (int match = 0; match < 3; match++) {
            hall.match(0, 1, 0);
            for (int player = 0; player < 8 + (match + 1) / 2; player++) {
                hall.dress(0, player);
                hall.dress(1, 10 + player);
            }
            hall.begin();
            if (match == 0) {
                Hall.scoreBy(hall, 2);
            }
            Hall.endThirdPeriod(hall);
            hall.close();
        }
        return hall;
    }

    // Promise 10.
    private static void recalling() {
        Blueline hall = Hall.twoClubs();
        int before = hall.payroll(0);
        hall.down(2);
        Hall.due("recall", hall.recall(2), before);
        Hall.due("active", hall.statusOf(2), 'a');
        Hall.refused(hall, "recall an active one", UNSUPPORTED, () -> hall.recall(2));
        hall.injure(3, true);
        Hall.refused(hall, "recall an injured one", UNSUPPORTED, () -> hall.recall(3));
        Hall.refused(hall, "recall one of no club", UNSUPPORTED, () -> hall.recall(9));
        hall.down(2);
        hall.setCap(before - 103 - 1);
        Hall.refused(hall, "recall above the cap", UNSUPPORTED, () -> hall.recall(2));
        hall.setCap(before - 103);
        Hall.due("recall up to the cap", hall.recall(2), before - 103);
    }

    // Promise 11.
    private static void claiming() {
        Blueline hall = threeMatches();
        hall.down(2);
        Hall.refused(hall, "claim by its own club", UNSUPPORTED, () -> hall.claim(0, 2));
        Hall.refused(hall, "claim one not on waivers", UNSUPPORTED, () -> hall.claim(1, 3));
        Hall.due("first claim", hall.claim(1, 2), 1);
        Hall.refused(hall, "claim again", UNSUPPORTED, () -> hall.claim(1, 2));
        Hall.due("second claim", hall.claim(3, 2), 2);
        hall.injure(2, true);
        Hall.refused(hall, "claim one injured since", UNSUPPORTED, () -> hall.claim(2, 2));
        hall.injure(2, false);
        hall.down(2);
        Hall.due("claims start anew", hall.claim(1, 2), 1);
        hall.trade(2, 12);
        Hall.due("traded, on no waivers", hall.statusOf(2), 'a');
        hall.down(2);
        Hall.refused(hall, "claim by the new club", UNSUPPORTED, () -> hall.claim(1, 2));
        Hall.due("claims start anew in the new club", hall.claim(0, 2), 1);
        hall.trade(3, 2);
        Hall.due("traded for another one, on no waivers", hall.statusOf(2), 'a');
        Hall.due("back in the club", hall.clubOf(2), 0);
        hall.down(2);
        Hall.due("claims start anew again", hall.claim(3, 2), 1);
        hall.release(2);
        Hall.due("released, on no waivers", hall.statusOf(2), 'n');
        hall.sign(2, 2);
        Hall.due("signed, on no waivers", hall.statusOf(2), 'a');
        Hall.refused(hall, "claim one signed", UNSUPPORTED, () -> hall.claim(1, 2));
    }

    // Promises 12 and 18.
    private static void passing() {
        Blueline hall = Hall.twoClubs();
        int home = hall.payroll(0);
        Hall.due("charge at first", (Object) hall.charge(0), 0L);
        Hall.due("day 1", hall.pass(), 1);
        Hall.due("charge then", (Object) hall.charge(0), (long) home);
        hall.injure(2, true);
        Hall.due("day 2", hall.pass(), 2);
        Hall.due("charge of two days", (Object) hall.charge(0), 2L * home - 102);
        for (int day = 3; day <= 450; day++) {
            hall.pass();
        }
        Hall.due("charge of 450 days", (Object) hall.charge(1), 450L * hall.payroll(1));
        // More calls than the 512 that the document binds.
        for (int day = 451; day <= 999; day++) {
            hall.pass();
        }
        Hall.refused(hall, "the day 999", STATE, hall::pass);
    }

    // Promise 12, as waivers end.
    private static void waiversEnd() {
        Blueline hall = threeMatches();
        hall.down(2);
        hall.pass();
        Hall.due("down without a claim", hall.statusOf(2), 'd');
        Hall.due("of the same club", hall.clubOf(2), 0);
        Hall.due("waivers end ahead of charges", (Object) hall.charge(0), (long) hall.payroll(0));
        hall.recall(2);
        hall.down(2);
        hall.claim(2, 2);
        hall.claim(1, 2);
        hall.claim(3, 2);
        hall.pass();
        Hall.due("to the lowest club of the table", hall.clubOf(2), 3);
        Hall.due("active there", hall.statusOf(2), 'a');
        Hall.due("charged there already", (Object) hall.charge(3), 102L);
        waiversUnderTheCap();
    }

    // Promises 9 and 12: the player 0, and the club that is the first of the table.
    private static void waiversOfTheFirst() {
        Blueline hall = threeMatches();
        Hall.due("the first player is on waivers", hall.down(0), false);
        hall.pass();
        Hall.due("and down", hall.statusOf(0), 'd');
        Hall.due("the first player of the other one", hall.down(10), false);
        Hall.due("claimed by the first club of the table", hall.claim(0, 10), 1);
        Hall.due("it is the first one", hall.ranked(0), 0);
        hall.pass();
        Hall.due("has the player", hall.clubOf(10), 0);
        Hall.due("active", hall.statusOf(10), 'a');
        Hall.due("on waivers again, behind as many matches", hall.down(10), false);
        Hall.due("claims start anew", hall.claim(3, 10), 1);
        hall.pass();
        hall.pass();
        Hall.due("goes once", hall.clubOf(10), 3);
        Hall.due("charge of two days", (Object) hall.charge(3), 220L);
        hall.down(12);
        hall.claim(0, 12);
        hall.claim(2, 12);
        hall.pass();
        Hall.due("the first of the table goes behind a lower one", hall.clubOf(12), 2);
    }

    private static void waiversUpToTheCap() {
        for (int cap = 101; cap <= 102; cap++) {
            Blueline hall = threeMatches();
            hall.down(2);
            hall.claim(3, 2);
            hall.setCap(cap);
            hall.pass();
            Hall.due("a hit of 102 under the cap " + cap, hall.clubOf(2), cap < 102 ? 0 : 3);
            Hall.due("status by it", hall.statusOf(2), cap < 102 ? 'd' : 'a');
        }
    }

    private static void waiversUnderTheCap() {
        Blueline hall = threeMatches();
        for (int player = 2; player < 5; player++) {
            hall.down(player);
            hall.claim(2, player);
            hall.claim(3, player);
        }
        for (int player = 5; player < 8; player++) {
            hall.down(player);
        }
        hall.claim(2, 5);
        // The cap leaves room for one of these players in each of the clubs 2 and 3.
        hall.setCap(204);
        hall.pass();
        Hall.due("the lowest club with room", hall.clubOf(2), 3);
        Hall.due("the next one, as the lowest is full", hall.clubOf(3), 2);
        Hall.due("no club has room", hall.statusOf(4), 'd');
        Hall.due("no club has room, own club", hall.clubOf(4), 0);
        Hall.due("the club that claimed is full", hall.statusOf(5), 'd');
        Hall.due("active under the cap", hall.statusOf(3), 'a');
        Hall.due("all is sound", hall.isSound(), true);
    }

    // Promises 13 and 14.
    private static void banning() {
        Blueline hall = Hall.twoClubs();
        Hall.due("no ban", hall.banOf(9), 0);
        Hall.due("ban", hall.ban(9, 3), 3);
        Hall.due("ban more", hall.ban(9, 40), 43);
        Hall.due("ban 0", hall.ban(9, 0), 43);
        Hall.refused(hall, "ban -1", ARGUMENT, () -> hall.ban(9, -1));
        Hall.refused(hall, "ban 41", ARGUMENT, () -> hall.ban(9, 41));
        Hall.refused(hall, "ban nobody", INDEX, () -> hall.ban(20, 41));
        hall.sign(9, 0);
        hall.trade(9, 12);
        Hall.due("a ban stays in other clubs", hall.banOf(9), 43);
        Hall.due("others are not banned", hall.banOf(12), 0);
    }

    // Promises 5 to 18: players and clubs that are not there.
    private static void numbersOutOfRange() {
        Blueline hall = Hall.twoClubs();
        for (int wrong : new int[] {-1, 20, Integer.MIN_VALUE, Integer.MAX_VALUE}) {
            Hall.refused(hall, "sign", INDEX, () -> hall.sign(wrong, 0));
            Hall.refused(hall, "release", INDEX, () -> hall.release(wrong));
            Hall.refused(hall, "trade", INDEX, () -> hall.trade(wrong, 0));
            Hall.refused(hall, "trade other", INDEX, () -> hall.trade(9, wrong));
            Hall.refused(hall, "injure", INDEX, () -> hall.injure(wrong, true));
            Hall.refused(hall, "down", INDEX, () -> hall.down(wrong));
            Hall.refused(hall, "recall", INDEX, () -> hall.recall(wrong));
            Hall.refused(hall, "claim", INDEX, () -> hall.claim(0, wrong));
            Hall.refused(hall, "ban", INDEX, () -> hall.ban(wrong, 1));
            Hall.refused(hall, "banOf", INDEX, () -> hall.banOf(wrong));
            Hall.refused(hall, "statusOf", INDEX, () -> hall.statusOf(wrong));
            Hall.refused(hall, "clubOf", INDEX, () -> hall.clubOf(wrong));
        }
        for (int wrong : new int[] {-1, 2, 6, Integer.MIN_VALUE, Integer.MAX_VALUE}) {
            Hall.refused(hall, "sign to", INDEX, () -> hall.sign(0, wrong));
            Hall.refused(hall, "claim by", INDEX, () -> hall.claim(wrong, 0));
            Hall.refused(hall, "payroll", INDEX, () -> hall.payroll(wrong));
            Hall.refused(hall, "charge", INDEX, () -> hall.charge(wrong));
        }
    }

    // Promises 6 to 9: who is in a line-up of a match that is laid and not closed.
    private static void lineupsAreLocked() {
        Blueline hall = Hall.twoClubs();
        hall.match(0, 1, 0);
        hall.dress(0, 2);
        Hall.refused(hall, "release", UNSUPPORTED, () -> hall.release(2));
        Hall.refused(hall, "trade", UNSUPPORTED, () -> hall.trade(2, 12));
        Hall.refused(hall, "trade for", UNSUPPORTED, () -> hall.trade(12, 2));
        Hall.refused(hall, "injure", UNSUPPORTED, () -> hall.injure(2, true));
        Hall.refused(hall, "told active", UNSUPPORTED, () -> hall.injure(2, false));
        Hall.refused(hall, "down", UNSUPPORTED, () -> hall.down(2));
        Hall.due("others are free", hall.down(3), true);
        Blueline ended = Hall.begun(0);
        Hall.endThirdPeriod(ended);
        Hall.refused(ended, "release ahead of the closing", UNSUPPORTED, () -> ended.release(2));
        ended.close();
        Hall.due("free behind the closing", ended.release(2), 0);
    }
}
