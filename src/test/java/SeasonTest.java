import java.util.ArrayList;
import java.util.Comparator;
import java.util.List;
import java.util.Random;
import java.util.TreeSet;

/**
 * Promises 2 to 20, 38 and 59 to 65: calls to clubs and players, days and whole matches, drawn from fixed seeds, told
 * to Blueline and to a plain model alike. An argument sets how many halls are made.
 */
public final class SeasonTest {
    private static final int CLUBS = 4;
    private static final int PLAYERS = 40;

    private final Random random;
    private final Blueline hall = new Blueline();
    private final int[] hits = new int[PLAYERS];
    private final int[] clubs = new int[PLAYERS];
    private final char[] status = new char[PLAYERS];
    private final int[] bans = new int[PLAYERS];
    private final int[] matches = new int[PLAYERS];
    private final List<TreeSet<Integer>> claims = new ArrayList<>();
    private final long[] charges = new long[CLUBS];
    // Points, won in time, goals less goals against, goals made, won, played.
    private final int[][] table = new int[CLUBS][6];
    private int cap = 5000;
    private int goals;
    private int closed;
    private int day;
    private boolean isOver;
    private String trace = "";

    private SeasonTest(int seed) {
        random = new Random(seed);
        for (int club = 0; club < CLUBS; club++) {
            hall.club();
        }
        for (int player = 0; player < PLAYERS; player++) {
            hits[player] = random.nextInt(40) * 10;
            hall.player(player % 10 < 2, hits[player]);
            clubs[player] = -1;
            status[player] = 'n';
            claims.add(new TreeSet<>());
        }
    }

    public static void main(String[] args) {
        int halls = args.length > 0 ? Integer.parseInt(args[0]) : 300;
        for (int seed = 0; seed < halls; seed++) {
            SeasonTest season = new SeasonTest(seed);
            for (int player = 0; player < PLAYERS - 2; player++) {
                season.call('s', player, player / 10);
            }
            for (int step = 0; step < 200 && !season.isOver; step++) {
                season.step();
            }
        }
        Hall.end("SeasonTest");
    }

    private int below(int bound) {
        return random.nextInt(bound);
    }

    private void step() {
        char kind = "sssssrttijjjjdddccccccpbkkkkK".charAt(below(29));
        if (below(9) == 0) {
            play();
        } else {
            call(kind, kind == 'c' ? anyOnWaivers() : below(PLAYERS), below(kind == 'b' ? 2 : CLUBS));
        }
        compare();
    }

    private int anyOnWaivers() {
        int start = below(PLAYERS);
        for (int i = 0; i < PLAYERS; i++) {
            if (status[(start + i) % PLAYERS] == 'w') {
                return (start + i) % PLAYERS;
            }
        }
        return start;
    }

    private int payroll(int club) {
        int sum = 0;
        for (int player = 0; player < PLAYERS; player++) {
            boolean isPaid = status[player] == 'a' || status[player] == 'w';
            sum += clubs[player] == club && isPaid ? hits[player] : 0;
        }
        return sum;
    }

    private boolean fits(int club, int player) {
        return payroll(club) + hits[player] <= cap;
    }

    private void set(int player, int club, char is) {
        clubs[player] = club;
        status[player] = is;
        claims.get(player).clear();
    }

    private List<Integer> ranked() {
        List<Integer> order = new ArrayList<>(List.of(0, 1, 2, 3));
        Comparator<Integer> more = Comparator.comparing(c -> -table[c][0]);
        order.sort(more.thenComparing(c -> -table[c][1]).thenComparing(c -> -table[c][2])
                .thenComparing(c -> -table[c][3]).thenComparing(c -> c));
        return order;
    }

    /** Makes a call both ways; the answer of the model is null where the hall has to refuse. */
    private void call(char kind, int player, int club) {
        trace += " " + kind + player + "," + club;
        Long want = answer(kind, player, club);
        Long got = null;
        String before = Hall.picture(hall);
        try {
            got = ask(kind, player, club);
        } catch (UnsupportedOperationException e) {
            Hall.due(trace + " changes nothing", Hall.picture(hall), before);
        }
        Hall.due(trace, got, want);
    }

    private long ask(char kind, int player, int club) {
        switch (kind) {
            case 's': return hall.sign(player, club);
            case 'r': return hall.release(player);
            case 't': return hall.trade(player, otherOf(player, club));
            case 'i': return hall.injure(player, true);
            case 'j': return hall.injure(player, false);
            case 'd': return hall.down(player) ? 1 : 0;
            case 'c': return hall.claim(club, player);
            case 'p': return hall.pass();
            case 'b': return hall.ban(player, club);
            case 'k': return hall.recall(player);
            default: return hall.setCap(capOf(player));
        }
    }

    private static int otherOf(int player, int club) {
        return (player * 7 + club * 13) % PLAYERS;
    }

    private static int capOf(int player) {
        return 800 + 50 * player;
    }

    private Long answer(char kind, int player, int club) {
        char was = status[player];
        switch (kind) {
            case 's':
                if (clubs[player] >= 0 || !fits(club, player)) {
                    return null;
                }
                set(player, club, 'a');
                return (long) payroll(club);
            case 'r':
                long before = clubs[player];
                set(player, -1, 'n');
                return before < 0 ? null : before;
            case 't':
                return trade(player, otherOf(player, club));
            case 'i':
                if (was != 'n') {
                    set(player, clubs[player], 'i');
                }
                return was == 'n' ? null : was == 'w' ? 'a' : (long) was;
            case 'j':
                if (was == 'n' || was != 'a' && was != 'w' && !fits(clubs[player], player)) {
                    return null;
                }
                status[player] = was == 'w' ? 'w' : 'a';
                return was == 'w' ? 'a' : (long) was;
            case 'd':
                if (was != 'a') {
                    return null;
                }
                status[player] = matches[player] >= 3 ? 'w' : 'd';
                return matches[player] >= 3 ? 0L : 1L;
            case 'c':
                boolean can = was == 'w' && clubs[player] != club && claims.get(player).add(club);
                return can ? (long) claims.get(player).size() : null;
            case 'p':
                return (long) pass();
            case 'b':
                bans[player] += club;
                return (long) bans[player];
            case 'k':
                if (was != 'd' || !fits(clubs[player], player)) {
                    return null;
                }
                status[player] = 'a';
                return (long) payroll(clubs[player]);
            default:
                long old = cap;
                cap = capOf(player);
                return old;
        }
    }

    private Long trade(int player, int other) {
        int one = clubs[player];
        int two = clubs[other];
        if (one < 0 || two < 0 || one == two) {
            return null;
        }
        int[] before = {payroll(one), payroll(two)};
        char[] was = {status[player], status[other]};
        clubs[player] = two;
        clubs[other] = one;
        boolean isTooMuch = payroll(one) > Math.max(before[0], cap) || payroll(two) > Math.max(before[1], cap);
        if (isTooMuch) {
            clubs[player] = one;
            clubs[other] = two;
            return null;
        }
        set(player, two, was[0] == 'w' ? 'a' : was[0]);
        set(other, one, was[1] == 'w' ? 'a' : was[1]);
        return (long) payroll(two);
    }

    private int pass() {
        for (int player = 0; player < PLAYERS; player++) {
            if (status[player] == 'w') {
                int winner = -1;
                for (int club : ranked()) {
                    winner = claims.get(player).contains(club) && fits(club, player) ? club : winner;
                }
                set(player, winner < 0 ? clubs[player] : winner, winner < 0 ? 'd' : 'a');
            }
        }
        for (int club = 0; club < CLUBS; club++) {
            charges[club] += payroll(club);
        }
        day++;
        return day;
    }

    /** Plays a match of two clubs with all whom they can dress, if these are enough. */
    private void play() {
        int home = below(CLUBS);
        int away = (home + 1 + below(CLUBS - 1)) % CLUBS;
        List<List<Integer>> lineups = List.of(lineup(home), lineup(away));
        boolean canBegin = isEnough(lineups.get(0)) && isEnough(lineups.get(1));
        if (!canBegin && below(10) > 0) {
            return;
        }
        trace += " match" + home + away + lineups;
        hall.match(home, away, 24);
        for (int side = 0; side < 2; side++) {
            for (int player : lineups.get(side)) {
                hall.dress(side, player);
            }
        }
        if (canBegin) {
            hall.begin();
            finish(home, away, lineups);
        } else {
            // It stays laid, and nothing can take it away.
            Hall.due(trace, (Object) Hall.thrownBy(hall::begin), UnsupportedOperationException.class);
            isOver = true;
        }
    }

    private List<Integer> lineup(int club) {
        List<Integer> lineup = new ArrayList<>();
        int keepers = 0;
        for (int player = 0; player < PLAYERS; player++) {
            boolean isFit = clubs[player] == club && status[player] == 'a' && bans[player] == 0;
            boolean isGoalie = player % 10 < 2;
            if (isFit && lineup.size() < 12 && (!isGoalie || keepers < 2)) {
                lineup.add(player);
                keepers += isGoalie ? 1 : 0;
            }
        }
        return lineup;
    }

    private static boolean isEnough(List<Integer> lineup) {
        long keepers = lineup.stream().filter(p -> p % 10 < 2).count();
        return keepers >= 1 && lineup.size() - keepers >= 5;
    }

    private void finish(int home, int away, List<List<Integer>> lineups) {
        int[] score = {below(3), below(3)};
        int[] skater = new int[2];
        for (int side = 0; side < 2; side++) {
            skater[side] = lineups.get(side).stream().filter(p -> p % 10 >= 2).findFirst().orElse(-1);
            for (int goal = 0; goal < score[side]; goal++) {
                score(side, skater[side]);
            }
        }
        int out = below(3) == 0 ? skater[0] : -1;
        if (out >= 0) {
            hall.penalty(out, 'X', lineups.get(0).stream().filter(p -> p % 10 >= 2 && p != out).findFirst().orElse(-1));
        }
        Hall.endThirdPeriod(hall);
        boolean isLate = score[0] == score[1];
        if (isLate) {
            int winner = below(2);
            if (below(2) == 0) {
                score(winner, lineups.get(winner).stream().filter(p -> hall.placeOf(p) >= 0 && p % 10 >= 2)
                        .findFirst().orElse(-1));
            } else {
                Hall.endPeriod(hall);
                shoot(winner, lineups);
            }
            score[winner]++;
        }
        Hall.due(trace + " final score", hall.score(0) * 10 + hall.score(1), score[0] * 10 + score[1]);
        closed++;
        Hall.due(trace + " closed", hall.close(), closed);
        settle(home, away, score, isLate, lineups, out);
    }

    private void score(int side, int scorer) {
        hall.faceOff(side == 0 ? 3 : 0);
        hall.touch(scorer);
        hall.goal(scorer, -1, -1);
    }

    private void shoot(int winner, List<List<Integer>> lineups) {
        for (int round = 0; hall.phase() == 'o'; round++) {
            int side = hall.shots(0, false) > hall.shots(1, false) ? 1 : 0;
            int index = hall.shots(side, false);
            List<Integer> shooters = lineups.get(side).stream()
                    .filter(p -> p % 10 >= 2 && hall.placeOf(p) >= -1).toList();
            hall.shoot(shooters.get(index % shooters.size()), side == winner);
        }
    }

    private void settle(int home, int away, int[] score, boolean isLate, List<List<Integer>> lineups, int out) {
        int[] both = {home, away};
        goals += score[0] + score[1];
        for (int side = 0; side < 2; side++) {
            int[] row = table[both[side]];
            boolean isWon = score[side] > score[1 - side];
            row[0] += isWon ? isLate ? 2 : 3 : isLate ? 1 : 0;
            row[1] += isWon && !isLate ? 1 : 0;
            row[2] += score[side] - score[1 - side];
            row[3] += score[side];
            row[4] += isWon ? 1 : 0;
            row[5]++;
        }
        for (int player = 0; player < PLAYERS; player++) {
            boolean isDressed = lineups.get(0).contains(player) || lineups.get(1).contains(player);
            boolean isOfMatch = clubs[player] == home || clubs[player] == away;
            if (isDressed) {
                matches[player]++;
            } else if (isOfMatch && bans[player] > 0) {
                bans[player]--;
            }
            bans[player] += player == out ? 2 : 0;
        }
    }

    private void compare() {
        StringBuilder got = new StringBuilder();
        StringBuilder want = new StringBuilder();
        for (int player = 0; player < PLAYERS; player++) {
            got.append(hall.statusOf(player)).append(hall.clubOf(player)).append(hall.banOf(player)).append(' ');
            want.append(status[player]).append(clubs[player]).append(bans[player]).append(' ');
        }
        List<Integer> order = ranked();
        for (int club = 0; club < CLUBS; club++) {
            got.append(hall.payroll(club)).append(',').append(hall.charge(club)).append(',').append(hall.points(club));
            want.append(payroll(club)).append(',').append(charges[club]).append(',').append(table[club][0]);
            got.append(',').append(hall.ranked(club)).append(' ');
            want.append(',').append(order.get(club)).append(' ');
            if (table[club][5] > 0) {
                got.append(hall.wonShare(club));
                want.append((float) table[club][4] / table[club][5]);
            }
        }
        if (closed > 0) {
            got.append(hall.meanGoals());
            want.append((double) goals / closed);
        }
        Hall.due(trace, got.toString(), want.toString());
        Hall.due(trace + " is sound", hall.isSound(), true);
    }
}
