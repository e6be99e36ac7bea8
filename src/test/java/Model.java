import java.util.ArrayList;
import java.util.List;

/**
 * A match told a second time, in another way than Blueline does: it keeps how things stood ahead of each event, and
 * asks anew each time which penalties run. FuzzTest compares both.
 */
final class Model {
    static final int BENCH = -1;
    static final int BOX = -2;
    static final int OUT = -3;
    static final int NOWHERE = -4;

    static final class Penalty {
        int side;
        int server;
        int left;
        boolean counts;
        boolean isMinor;

        Penalty copy() {
            Penalty copy = new Penalty();
            copy.side = side;
            copy.server = server;
            copy.left = left;
            copy.counts = counts;
            copy.isMinor = isMinor;
            return copy;
        }
    }

    /** How things stand. A call is {player, kind, server}. */
    static final class State {
        char phase = 's';
        int period = 1;
        int clock = 12000;
        int puck = 1;
        int having = -1;
        int sent = -1;
        int toucher = -1;
        int[] score = new int[2];
        boolean[] offside = new boolean[2];
        int[] shots = new int[2];
        int[] shotGoals = new int[2];
        int[] place = new int[60];
        int[] shotsBy = new int[60];
        int[][] tally = new int[4][60];
        List<int[]> calls = new ArrayList<>();
        List<Penalty> penalties = new ArrayList<>();

        State copy() {
            State copy = new State();
            copy.phase = phase;
            copy.period = period;
            copy.clock = clock;
            copy.puck = puck;
            copy.having = having;
            copy.sent = sent;
            copy.toucher = toucher;
            copy.score = score.clone();
            copy.offside = offside.clone();
            copy.shots = shots.clone();
            copy.shotGoals = shotGoals.clone();
            copy.place = place.clone();
            copy.shotsBy = shotsBy.clone();
            for (int what = 0; what < 4; what++) {
                copy.tally[what] = tally[what].clone();
            }
            for (int[] call : calls) {
                copy.calls.add(call.clone());
            }
            for (Penalty penalty : penalties) {
                copy.penalties.add(penalty.copy());
            }
            return copy;
        }
    }

    final List<List<Integer>> lineups;
    final List<Integer> goalies;
    final int edition;
    final List<int[]> events = new ArrayList<>();
    final List<State> ahead = new ArrayList<>();
    State now = new State();

    Model(List<List<Integer>> lineups, List<Integer> goalies, int edition) {
        this.lineups = lineups;
        this.goalies = goalies;
        this.edition = edition;
        java.util.Arrays.fill(now.place, NOWHERE);
        for (int side = 0; side < 2; side++) {
            int keepers = 0;
            int skaters = 0;
            for (int player : lineups.get(side)) {
                boolean isFirst = goalies.contains(player) ? keepers++ < 1 : skaters++ < 5;
                now.place[player] = isFirst ? 1 + side : BENCH;
            }
        }
    }

    /** The same events by another edition, those left out that are not possible. */
    Model toldAnew(List<int[]> told, int newEdition) {
        Model model = new Model(lineups, goalies, newEdition);
        for (int[] event : told) {
            if (model.refusal(event) == null) {
                model.tell(event);
            }
        }
        return model;
    }

    int sideOf(int player) {
        return lineups.get(0).contains(player) ? 0 : lineups.get(1).contains(player) ? 1 : -1;
    }

    boolean isGoalie(int player) {
        return goalies.contains(player);
    }

    boolean isOn(int player) {
        return now.place[player] >= 0;
    }

    int skatersOn(int side) {
        return (int) lineups.get(side).stream().filter(p -> isOn(p) && !isGoalie(p)).count();
    }

    boolean hasGoalieOn(int side) {
        return lineups.get(side).stream().anyMatch(p -> isOn(p) && isGoalie(p));
    }

    /** Whether a penalty runs, by the words of the document. */
    boolean runs(Penalty asked) {
        int counting = 0;
        for (int i = 0; i < now.penalties.size(); i++) {
            Penalty penalty = now.penalties.get(i);
            if (penalty.side != asked.side) {
                continue;
            }
            boolean can = true;
            for (int j = 0; j < i; j++) {
                can &= now.penalties.get(j).server != penalty.server;
            }
            boolean runs = can && (!penalty.counts || counting < 2);
            if (runs && penalty.counts) {
                counting++;
            }
            if (penalty == asked) {
                return runs;
            }
        }
        return false;
    }

    int running(int side, boolean counts) {
        return (int) now.penalties.stream().filter(p -> p.side == side && p.counts == counts && runs(p)).count();
    }

    int waiting(int side) {
        int called = (int) now.calls.stream().filter(c -> sideOf(c[0]) == side).count();
        return called + (int) now.penalties.stream().filter(p -> p.side == side && !runs(p)).count();
    }

    int leftOf(int player) {
        return now.penalties.stream().filter(p -> p.server == player).mapToInt(p -> p.left).sum();
    }

    boolean serves(int player) {
        return now.penalties.stream().anyMatch(p -> p.server == player);
    }

    int may(int side) {
        int base = now.period == 4 ? 3 + running(1 - side, true) : 5 - running(side, true);
        return base + (hasGoalieOn(side) ? 0 : 1);
    }

    static int farEnd(int side) {
        return side == 0 ? 3 : 0;
    }

    // ---- what is possible ----

    /** Null if the event is possible, otherwise the letter and the number of why not. */
    String refusal(int[] event) {
        char kind = (char) event[0];
        if (!isInPhase(kind)) {
            return "s" + (int) now.phase;
        }
        int a = event[1];
        switch (kind) {
            case 't': return a > now.clock ? "t" + now.clock : null;
            case 'g': case 'l': return isOn(a) ? null : "i" + a;
            case 'u': return !isOn(a) ? "i" + a : now.place[a] != now.puck ? "q" + now.puck : null;
            case 's': return now.having == -1 ? "h-1" : null;
            case 'c': return refusalOfCarry();
            case 'h': return refusalOfChange(a, event[2]);
            case 'e': return refusalOfEnter(a);
            case 'p': return refusalOfCall(event);
            case 'G': return refusalOfGoal(event);
            case 'v': return a == 'o' && lastEntry() < 0 ? "o" + goalSide() : null;
            case 'S': return canShoot(a) ? null : "v" + a;
            default: return null;
        }
    }

    private boolean isInPhase(char kind) {
        if (kind == 'v') {
            return !events.isEmpty() && events.get(events.size() - 1)[0] == 'G';
        }
        String kinds = now.phase == 's' ? "fbhlep" : now.phase == 'p' ? "tguscGzhlep"
                : now.phase == 'r' ? "r" : now.phase == 'o' ? "S" : "";
        return kinds.indexOf(kind) >= 0;
    }

    private String refusalOfCarry() {
        if (now.having == -1) {
            return "h-1";
        }
        if (!isOn(now.toucher)) {
            return "i" + now.toucher;
        }
        return now.place[now.toucher] != now.puck ? "q" + now.puck : null;
    }

    private String refusalOfChange(int player, int other) {
        if (!isOn(player)) {
            return "i" + player;
        }
        if (now.place[other] != BENCH || sideOf(other) != sideOf(player)) {
            return "b" + other;
        }
        return isGoalie(player) != isGoalie(other) ? "g" + other : null;
    }

    private String refusalOfEnter(int player) {
        if (now.place[player] != BENCH) {
            return "b" + player;
        }
        if (isGoalie(player)) {
            return hasGoalieOn(sideOf(player)) ? "g" + player : null;
        }
        int may = may(sideOf(player));
        return now.phase == 's' && skatersOn(sideOf(player)) + 1 > may ? "n" + may : null;
    }

    private String refusalOfCall(int[] event) {
        int player = event[1];
        int server = event[3];
        if (now.place[player] == NOWHERE || now.place[player] == OUT) {
            return "v" + player;
        }
        boolean can = !isGoalie(player) && event[2] != 'X' ? server == player
                : server != player && sideOf(server) == sideOf(player) && !isGoalie(server)
                && (isOn(server) || now.place[server] == BENCH);
        return can ? null : "v" + server;
    }

    private String refusalOfGoal(int[] event) {
        int side = sideOf(event[1]);
        for (int i = 1; i < 4; i++) {
            int player = event[i];
            if (i > 1 && player == -1) {
                continue;
            }
            if (!isOn(player)) {
                return "i" + player;
            }
            if (isGoalie(player)) {
                return "g" + player;
            }
            if (sideOf(player) != side) {
                return "i" + player;
            }
        }
        if (now.having != side && now.sent != side) {
            return "h" + now.having;
        }
        if (now.puck != farEnd(side)) {
            return "q" + now.puck;
        }
        return now.offside[side] ? "o" + side : null;
    }

    private int goalSide() {
        return sideOf(events.get(events.size() - 1)[1]);
    }

    /** The index of the last entry of the side of the goal since the last face-off, -1 for none. */
    private int lastEntry() {
        int side = goalSide();
        for (int i = events.size() - 2; i >= 0 && events.get(i)[0] != 'f'; i--) {
            int[] event = events.get(i);
            State then = ahead.get(i);
            boolean moves = event[0] == 's' || event[0] == 'c';
            if (moves && then.having == side && then.puck != event[1] && event[1] == farEnd(side)) {
                return i;
            }
        }
        return -1;
    }

    private boolean canShoot(int player) {
        int turn = now.shots[0] > now.shots[1] ? 1 : 0;
        if (sideOf(player) != turn || !isShooter(player)) {
            return false;
        }
        return lineups.get(turn).stream().filter(this::isShooter)
                .allMatch(other -> now.shotsBy[other] >= now.shotsBy[player]);
    }

    private boolean isShooter(int player) {
        return !isGoalie(player) && now.place[player] != BOX && now.place[player] != OUT;
    }

    // ---- what events do ----

    /** Tells an event that is possible. */
    void tell(int[] event) {
        ahead.add(now);
        now = now.copy();
        int a = event[1];
        int b = event[2];
        switch ((char) event[0]) {
            case 'b':
                beginCalled();
                break;
            case 'f':
                faceOff(a);
                break;
            case 't':
                run(a);
                break;
            case 'g':
                now.place[a] = b;
                break;
            case 'u':
                now.toucher = a;
                now.having = sideOf(a);
                if (now.offside[now.having] || now.calls.stream().anyMatch(c -> sideOf(c[0]) == now.having)) {
                    stop();
                }
                break;
            case 's':
                send(a);
                break;
            case 'c':
                carry(a);
                break;
            case 'r':
                if (a == now.sent) {
                    now.phase = 'p';
                } else {
                    stop();
                }
                break;
            case 'h':
                now.place[b] = now.place[a];
                now.place[a] = BENCH;
                break;
            case 'l':
                now.place[a] = BENCH;
                break;
            case 'e':
                enter(a);
                break;
            case 'p':
                call(new int[] {a, b, event[3]});
                break;
            case 'z':
                stop();
                break;
            case 'G':
                goal(a, b, event[3]);
                break;
            case 'v':
                review((char) a);
                break;
            default:
                shoot(a, b);
        }
        events.add(event);
        for (int side = 0; side < 2; side++) {
            int end = farEnd(side);
            boolean isThere = lineups.get(side).stream().anyMatch(p -> now.place[p] == end && !isGoalie(p));
            now.offside[side] &= now.puck == end && isThere;
        }
    }

    private void faceOff(int place) {
        beginCalled();
        now.phase = 'p';
        now.puck = place;
        now.toucher = -1;
        now.having = -1;
        now.sent = -1;
        for (int player = 0; player < 60; player++) {
            now.place[player] = isOn(player) ? place : now.place[player];
        }
    }

    private void send(int place) {
        int side = now.having;
        int from = now.puck;
        boolean isOwnHalf = side == 0 ? from == 0 || from == 1 : from == 3 || from == 2;
        now.puck = place;
        now.having = -1;
        now.sent = side;
        if (place == from || place != farEnd(side) || offside(side)) {
            return;
        }
        if (isOwnHalf && running(side, true) <= running(1 - side, true)) {
            if ((edition & 2) > 0) {
                now.phase = 'r';
            } else {
                stop();
            }
        }
    }

    private void carry(int place) {
        int side = now.having;
        int from = now.puck;
        now.puck = place;
        now.place[now.toucher] = place;
        now.sent = -1;
        if (place != from && place == farEnd(side)) {
            offside(side);
        }
    }

    private boolean offside(int side) {
        boolean is = lineups.get(side).stream()
                .anyMatch(p -> p != now.toucher && !isGoalie(p) && now.place[p] == farEnd(side));
        if (is && (edition & 1) > 0) {
            now.offside[side] = true;
        } else if (is) {
            stop();
        }
        return is;
    }

    private void enter(int player) {
        int side = sideOf(player);
        now.place[player] = 1 + side;
        if (now.phase == 'p' && !isGoalie(player) && skatersOn(side) > may(side)) {
            now.calls.add(new int[] {player, 'm', player});
            stop();
        }
    }

    private void call(int[] call) {
        now.calls.add(call);
        int side = sideOf(call[0]);
        if (now.phase == 'p' && (now.having == side || now.sent == side)) {
            stop();
        }
    }

    private void stop() {
        leaveBox();
        now.phase = 's';
        trim();
    }

    private void leaveBox() {
        for (int player = 0; player < 60; player++) {
            if (now.place[player] == BOX && !serves(player)) {
                now.place[player] = BENCH;
            }
        }
        now.offside = new boolean[2];
        now.having = -1;
        now.sent = -1;
    }

    private void trim() {
        for (int side = 0; side < 2; side++) {
            while (skatersOn(side) > may(side)) {
                int last = -1;
                for (int player : lineups.get(side)) {
                    last = isOn(player) && !isGoalie(player) ? player : last;
                }
                now.place[last] = BENCH;
            }
        }
    }

    private void run(int tenths) {
        for (int rest = tenths; rest > 0;) {
            List<Penalty> running = now.penalties.stream().filter(this::runs).toList();
            int step = Math.min(rest, running.stream().mapToInt(p -> p.left).min().orElse(rest));
            running.forEach(p -> p.left -= step);
            now.clock -= step;
            rest -= step;
            for (int side = 0; side < 2; side++) {
                int of = side;
                running.stream().filter(p -> p.side == of && p.left == 0).forEach(this::end);
            }
        }
        if (now.clock == 0) {
            endPeriod();
        }
    }

    private void end(Penalty penalty) {
        now.penalties.remove(penalty);
        int server = penalty.server;
        if (now.place[server] != OUT && penalty.counts && !serves(server)) {
            boolean fits = skatersOn(penalty.side) + 1 <= may(penalty.side);
            now.place[server] = fits ? 1 + penalty.side : BENCH;
        }
    }

    private void endPeriod() {
        leaveBox();
        now.phase = 's';
        boolean isAlike = now.score[0] == now.score[1];
        if (now.period <= 2) {
            now.period++;
            now.clock = 12000;
        } else if (isAlike && now.period == 3 && (edition & 8) > 0) {
            now.period = 4;
            now.clock = 3000;
        } else if (isAlike && (edition & 16) > 0) {
            now.phase = 'o';
            beginCalled();
        } else {
            now.phase = 'e';
        }
        trim();
    }

    private int count(int side, String kinds) {
        int count = 0;
        for (int[] call : now.calls) {
            if (sideOf(call[0]) == side && kinds.indexOf(call[1]) >= 0) {
                count += call[1] == '2' ? 2 : 1;
            }
        }
        return count;
    }

    private void beginCalled() {
        int majors = Math.min(count(0, "MX"), count(1, "MX"));
        int minors = Math.min(count(0, "m2"), count(1, "m2"));
        boolean isOneEach = count(0, "m2") == 1 && count(1, "m2") == 1 && count(0, "MX") + count(1, "MX") == 0;
        if ((edition & 4) > 0 && isOneEach && now.penalties.stream().noneMatch(p -> p.counts)) {
            minors = 0;
        }
        int[] majorsBegun = new int[2];
        int[] minorsBegun = new int[2];
        for (int[] call : now.calls) {
            int side = sideOf(call[0]);
            if (call[1] == 'X') {
                now.place[call[0]] = OUT;
            }
            for (int i = 0; i < (call[1] == '2' ? 2 : 1); i++) {
                Penalty penalty = new Penalty();
                penalty.side = side;
                penalty.server = call[2];
                penalty.isMinor = call[1] == 'm' || call[1] == '2';
                penalty.left = penalty.isMinor ? 1200 : call[1] == 'x' ? 6000 : 3000;
                penalty.counts = penalty.isMinor ? minorsBegun[side]++ >= minors
                        : call[1] != 'x' && majorsBegun[side]++ >= majors;
                now.tally[3][call[0]] += penalty.left;
                now.penalties.add(penalty);
            }
            if (now.place[call[2]] != OUT) {
                now.place[call[2]] = BOX;
            }
        }
        now.calls.clear();
        trim();
    }

    private void goal(int scorer, int first, int second) {
        int side = sideOf(scorer);
        int other = 1 - side;
        now.score[side]++;
        now.tally[0][scorer]++;
        for (int assist : new int[] {first, second}) {
            if (assist >= 0) {
                now.tally[1][assist]++;
            }
        }
        if (running(other, true) > running(side, true)) {
            now.penalties.stream().filter(p -> p.side == other && p.isMinor && p.counts && runs(p)).findFirst()
                    .ifPresent(this::endByGoal);
        } else {
            for (int player = 0; player < 60; player++) {
                if (isOn(player) && !isGoalie(player)) {
                    now.tally[2][player] += sideOf(player) == side ? 1 : -1;
                }
            }
        }
        for (int[] call : now.calls) {
            if (sideOf(call[0]) == other && (call[1] == 'm' || call[1] == '2')) {
                if (call[1] == 'm') {
                    now.calls.remove(call);
                } else {
                    call[1] = 'm';
                }
                break;
            }
        }
        stop();
        now.phase = now.period == 4 ? 'e' : 's';
    }

    private void endByGoal(Penalty penalty) {
        now.penalties.remove(penalty);
        if (now.place[penalty.server] != OUT && !serves(penalty.server)) {
            now.place[penalty.server] = BENCH;
        }
    }

    private void review(char kind) {
        int last = events.size() - 1;
        int back = kind == 'k' ? last : lastEntry();
        List<int[]> since = ahead.get(last).calls.subList(ahead.get(back).calls.size(), ahead.get(last).calls.size());
        now = ahead.get(back).copy();
        for (int[] call : since) {
            if (refusalOfCall(new int[] {'p', call[0], call[1], call[2]}) == null) {
                call(call.clone());
            }
        }
        stop();
    }

    private void shoot(int player, int goal) {
        int side = sideOf(player);
        now.shots[side]++;
        now.shotsBy[player]++;
        now.shotGoals[side] += goal;
        for (int one = 0; one < 2; one++) {
            int other = 1 - one;
            boolean isPaired = now.shots[0] == now.shots[1] && now.shots[0] >= 3;
            int ahead = now.shotGoals[one] - now.shotGoals[other];
            if (isPaired && ahead > 0 || ahead > Math.max(0, 3 - now.shots[other])) {
                now.score[one]++;
                now.phase = 'e';
            }
        }
    }
}
