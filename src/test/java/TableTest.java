/** Promises 59 to 65: tallies, points, the table, shares, means, the sum over all, and soundness. */
public final class TableTest {
    private static final Class<?> INDEX = IndexOutOfBoundsException.class;
    private static final Class<?> ARGUMENT = IllegalArgumentException.class;
    private static final Class<?> ARITHMETIC = ArithmeticException.class;

    public static void main(String[] args) {
        tallies();
        points();
        ties();
        rankedByWins();
        rankedByGoals();
        rankedByAllMatches();
        rankedByLateWins();
        shares();
        wrongNumbers();
        sums();
        soundness();
        Hall.end("TableTest");
    }

    // Promise 59.
    private static void tallies() {
        Blueline hall = Hall.twoClubs();
        Hall.due("none", hall.tally(2, 'g') + hall.tally(2, 'a') + hall.tally(2, '+') + hall.tally(2, 'p'), 0);
        for (int match = 1; match <= 2; match++) {
            Hall.laid(hall, 0);
            Hall.due("laid", hall.tally(2, 'g'), match - 1);
            hall.begin();
            hall.faceOff(3);
            hall.touch(2);
            hall.goal(2, 3, 4);
            hall.penalty(2, 'm', 2);
            hall.sit();
            Hall.due("goals with the match that is on", hall.tally(2, 'g'), match);
            Hall.due("assists with it", hall.tally(3, 'a'), match);
            Hall.due("second assists with it", hall.tally(4, 'a'), match);
            Hall.due("plus with it", hall.tally(5, '+'), match);
            Hall.due("minus with it", hall.tally(15, '+'), -match);
            Hall.due("tenths with it", hall.tally(2, 'p'), 1200 * match);
            Hall.endThirdPeriod(hall);
            hall.close();
            Hall.due("goals behind the closing", hall.tally(2, 'g'), match);
            Hall.due("assists behind the closing", hall.tally(3, 'a'), match);
            Hall.due("minus behind the closing", hall.tally(15, '+'), -match);
            Hall.due("tenths behind the closing", hall.tally(2, 'p'), 1200 * match);
        }
        for (char what : new char[] {'x', 'G', ' ', 0, 'm'}) {
            Hall.refused(hall, "tally of " + what, ARGUMENT, () -> hall.tally(2, what));
        }
        Hall.refused(hall, "tally of nobody", INDEX, () -> hall.tally(20, 'x'));
        Hall.refused(hall, "tally of -1", INDEX, () -> hall.tally(-1, 'g'));
    }

    /** Plays a match of the two clubs that the side wins by a goal: in time, in overtime, or by shots. */
    private static void win(Blueline hall, int side, char how) {
        Hall.laid(hall, how == 't' ? 24 : how == 'o' ? 8 : 16);
        hall.begin();
        if (how == 't') {
            Hall.scoreBy(hall, 2 + 10 * side);
        }
        Hall.endThirdPeriod(hall);
        if (how == 'o') {
            Hall.scoreBy(hall, 2 + 10 * side);
        }
        for (int shot = 0; how == 's' && hall.phase() == 'o'; shot++) {
            hall.shoot(shot % 2 * 10 + 2 + shot / 2, shot % 2 == side);
        }
        hall.close();
    }

    // Promises 60, 61 and 63.
    private static void points() {
        Blueline hall = Hall.twoClubs();
        Hall.due("no points", hall.points(0) + hall.points(1), 0);
        Hall.due("ranked by numbers at first", hall.ranked(0) * 10 + hall.ranked(1), 1);
        win(hall, 1, 't');
        Hall.due("3 in time", hall.points(1), 3);
        Hall.due("0 for the other one", hall.points(0), 0);
        Hall.due("first", hall.ranked(0), 1);
        Hall.due("second", hall.ranked(1), 0);
        win(hall, 0, 'o');
        Hall.due("2 in overtime", hall.points(0), 2);
        Hall.due("1 for the other one", hall.points(1), 4);
        win(hall, 0, 's');
        Hall.due("2 by shots", hall.points(0), 4);
        Hall.due("1 for the other one by shots", hall.points(1), 5);
        Hall.due("mean goals", (Object) hall.meanGoals(), 1.0);
        Hall.due("share of 2 of 3", (Object) hall.wonShare(0), 2.0f / 3.0f);
        Hall.due("share of 1 of 3", (Object) hall.wonShare(1), 1.0f / 3.0f);
    }

    private static void ties() {
        Blueline hall = Hall.begun(8);
        Hall.endThirdPeriod(hall);
        Hall.endPeriod(hall);
        hall.close();
        Hall.due("1 each behind overtime", hall.points(0) * 10 + hall.points(1), 11);
        Hall.laid(hall, 0);
        hall.begin();
        Hall.scoreBy(hall, 2);
        Hall.scoreBy(hall, 12);
        Hall.endThirdPeriod(hall);
        hall.close();
        Hall.due("1 each again", hall.points(0) * 10 + hall.points(1), 22);
        Hall.due("no club won", (Object) hall.wonShare(0), 0.0f);
        Hall.due("mean goals", (Object) hall.meanGoals(), 1.0);
    }

    // Promise 61: alike points, more won in the periods 1 to 3 ahead.
    private static void rankedByWins() {
        Blueline hall = Hall.twoClubs();
        win(hall, 0, 'o');
        win(hall, 0, 's');
        win(hall, 1, 't');
        win(hall, 0, 's');
        Hall.due("ahead by points", hall.points(0) * 10 + hall.points(1), 66);
        Hall.due("ahead by a win in time", hall.ranked(0), 1);
    }

    // Promise 61: alike points and wins, then goals.
    private static void rankedByGoals() {
        Blueline hall = fourClubs();
        play(hall, 0, 1, 1, 0);
        play(hall, 2, 3, 3, 1);
        Hall.due("by goals less goals against", order(hall), "2013");
        play(hall, 3, 1, 1, 1);
        Hall.due("1 has one less than 3 against, alike points", order(hall), "2013");
        Blueline made = fourClubs();
        play(made, 0, 1, 1, 0);
        play(made, 2, 3, 2, 1);
        Hall.due("by goals made, the losers, too", order(made), "2031");
        Blueline alike = fourClubs();
        play(alike, 3, 1, 1, 0);
        play(alike, 2, 0, 1, 0);
        Hall.due("by numbers", order(alike), "2301");
    }

    // Promise 61: what all matches gave, not the last one alone.
    private static void rankedByAllMatches() {
        Blueline goals = fourClubs();
        play(goals, 0, 1, 3, 0);
        play(goals, 0, 1, 0, 2);
        Hall.due("by goals of both matches", order(goals), "0123");
        Blueline against = fourClubs();
        play(against, 1, 0, 0, 2);
        play(against, 1, 0, 3, 0);
        Hall.due("by goals against of both matches", order(against), "1023");
        Blueline wins = fourClubs();
        play(wins, 0, 2, 1, 0);
        play(wins, 0, 3, 1, 0);
        play(wins, 1, 2, 5, 0);
        play(wins, 1, 2, 0, 0);
        play(wins, 1, 3, 0, 0);
        play(wins, 1, 3, 0, 0);
        Hall.due("alike points", wins.points(0) * 10 + wins.points(1), 66);
        Hall.due("by two wins ahead of one", order(wins).substring(0, 2), "01");
    }

    // Promise 61: who won in the period 4 has no win in the periods 1 to 3 by it, nor one less.
    private static void rankedByLateWins() {
        Blueline hall = fourClubs();
        hall.match(0, 2, 8);
        dressAll(hall, 0, 2);
        Hall.endThirdPeriod(hall);
        hall.faceOff(3);
        hall.touch(1);
        hall.goal(1, -1, -1);
        hall.close();
        play(hall, 1, 3, 0, 0);
        play(hall, 1, 3, 0, 0);
        Hall.due("alike points", hall.points(0) * 10 + hall.points(1), 22);
        Hall.due("by goals", order(hall), "0132");
    }

    private static String order(Blueline hall) {
        return "" + hall.ranked(0) + hall.ranked(1) + hall.ranked(2) + hall.ranked(3);
    }

    /** Four clubs; the club c has a goalie, the player 6 c, and five skaters behind. */
    private static Blueline fourClubs() {
        Blueline hall = new Blueline();
        for (int club = 0; club < 4; club++) {
            hall.club();
            for (int player = 0; player < 6; player++) {
                hall.sign(hall.player(player == 0, 1), club);
            }
        }
        return hall;
    }

    private static void play(Blueline hall, int home, int away, int homeGoals, int awayGoals) {
        hall.match(home, away, 0);
        dressAll(hall, home, away);
        for (int goal = 0; goal < homeGoals + awayGoals; goal++) {
            boolean isHome = goal < homeGoals;
            hall.faceOff(isHome ? 3 : 0);
            hall.touch(6 * (isHome ? home : away) + 1);
            hall.goal(6 * (isHome ? home : away) + 1, -1, -1);
        }
        Hall.endThirdPeriod(hall);
        hall.close();
    }

    private static void dressAll(Blueline hall, int home, int away) {
        for (int player = 0; player < 6; player++) {
            hall.dress(0, 6 * home + player);
            hall.dress(1, 6 * away + player);
        }
        hall.begin();
    }

    // Promises 62 and 63.
    private static void shares() {
        Blueline hall = fourClubs();
        Hall.refused(hall, "no match", ARITHMETIC, () -> hall.wonShare(0));
        Hall.refused(hall, "no mean", ARITHMETIC, hall::meanGoals);
        play(hall, 0, 1, 2, 0);
        play(hall, 0, 2, 0, 1);
        play(hall, 1, 0, 0, 2);
        Hall.due("2 of 3", (Object) hall.wonShare(0), 2.0f / 3.0f);
        Hall.due("0 of 2", (Object) hall.wonShare(1), 0.0f);
        Hall.due("1 of 1", (Object) hall.wonShare(2), 1.0f);
        Hall.refused(hall, "a club without", ARITHMETIC, () -> hall.wonShare(3));
        Hall.due("5 of 3", (Object) hall.meanGoals(), 5.0 / 3.0);
        hall.match(3, 1, 0);
        Hall.refused(hall, "a laid match is not closed", ARITHMETIC, () -> hall.wonShare(3));
    }

    private static void wrongNumbers() {
        Blueline hall = Hall.twoClubs();
        for (int wrong : new int[] {-1, 2, 6, Integer.MIN_VALUE, Integer.MAX_VALUE}) {
            Hall.refused(hall, "points", INDEX, () -> hall.points(wrong));
            Hall.refused(hall, "ranked", INDEX, () -> hall.ranked(wrong));
            Hall.refused(hall, "wonShare", INDEX, () -> hall.wonShare(wrong));
        }
    }

    // Promise 64.
    private static void sums() {
        Blueline hall = new Blueline();
        long sum = 7;
        hall.player(false, 5);
        sum = 31 * sum;
        Hall.due("a player of no club", (Object) hall.checksum(), sum);
        hall.club();
        Hall.due("and a club", (Object) hall.checksum(), 31 * sum);
        hall.sign(0, 0);
        hall.ban(0, 4);
        hall.pass();
        Hall.due("signed, banned, a day", (Object) hall.checksum(), 31 * (31 * 7L + 1 + 40) + 5);
        Blueline big = Hall.begun(0);
        Hall.scoreBy(big, 2);
        big.ban(18, 2);
        Hall.due("with the match that is on", (Object) big.checksum(), sumOf(big));
        Hall.endThirdPeriod(big);
        big.close();
        big.pass();
        Hall.due("with a closed match", (Object) big.checksum(), sumOf(big));
        Hall.due("points are in it", big.points(0), 3);
    }

    private static long sumOf(Blueline hall) {
        long sum = 7;
        for (int player = 0; player < 20; player++) {
            sum = 31 * sum + hall.clubOf(player) + 1 + 10 * hall.banOf(player) + 100 * hall.tally(player, '+');
        }
        for (int club = 0; club < 2; club++) {
            sum = 31 * sum + hall.points(club) + hall.charge(club);
        }
        return sum;
    }

    // Promise 65.
    private static void soundness() {
        Blueline hall = Hall.begun(31);
        Hall.due("a match", hall.isSound(), true);
        for (int player = 2; player < 6; player++) {
            hall.penalty(player, '2', player);
        }
        hall.faceOff(2);
        hall.touch(12);
        hall.send(0);
        Hall.due("racing", hall.isSound(), true);
        hall.race(1);
        hall.penalty(12, 'X', 16);
        hall.penalty(13, 'M', 13);
        hall.penalty(6, 'x', 6);
        Hall.due("with calls that wait", hall.isSound(), true);
        hall.sit();
        Hall.due("two run for each side", hall.running(0, true) * 10 + hall.running(1, true), 22);
        Hall.due("with two of each side", hall.isSound(), true);
        hall.faceOff(1);
        hall.run(2000);
        Hall.due("behind some that ended", hall.isSound(), true);
        hall.setCap(0);
        Hall.due("a cap that was lowered", hall.isSound(), true);
        hall.strike(1);
        Hall.due("behind a strike", hall.isSound(), true);
    }
}
