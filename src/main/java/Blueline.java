import java.util.NoSuchElementException;

/** A hall of hockey on ice: clubs, players, matches told as events, and a table. */
public final class Blueline {
    private static final int NONE = -1;

    private final Roster roster = new Roster();
    private final Table table = new Table();
    private final Tally closedTally = new Tally();
    private final Lineup lineup = new Lineup();
    private final Log log = new Log();
    // Two games, so that events are told anew in one of them while the other one stays as it is.
    private Game live = new Game(lineup);
    private Game scratch = new Game(lineup);
    private boolean isLaid;
    private boolean isBegun;
    private int edition;
    // The letter 0 says that no event was refused so far.
    private int whyLetter;
    private int whyNumber;

    public Blueline() {
    }

    // ---- clubs and players ----

    public int club() throws IllegalStateException {
        if (roster.clubCount >= Roster.MOST_CLUBS) {
            throw new IllegalStateException("there are 6 clubs");
        }
        return roster.addClub();
    }

    public int player(boolean isGoalie, int hit) throws IllegalArgumentException, IllegalStateException {
        if (hit < 0 || hit > 999) {
            throw new IllegalArgumentException("the hit is out of range");
        }
        if (roster.playerCount >= Roster.MOST_PLAYERS) {
            throw new IllegalStateException("there are 60 players");
        }
        return roster.addPlayer(isGoalie, hit);
    }

    public int setCap(int cap) throws IllegalArgumentException {
        if (cap < 0 || cap > 9999) {
            throw new IllegalArgumentException("the cap is out of range");
        }
        return roster.replaceCap(cap);
    }

    public int sign(int player, int club) throws IndexOutOfBoundsException, UnsupportedOperationException {
        needPlayer(player);
        needClub(club);
        if (roster.clubAt[player] != NONE || !roster.hasRoom(club, player)) {
            throw new UnsupportedOperationException("the player is of a club, or the payroll too high");
        }
        roster.move(player, club, 'a');
        return roster.sumOfHits(club);
    }

    public int release(int player) throws IndexOutOfBoundsException, UnsupportedOperationException {
        needPlayer(player);
        int before = roster.clubAt[player];
        if (before == NONE || isDressed(player)) {
            throw new UnsupportedOperationException("the player is of no club, or in a line-up");
        }
        roster.move(player, NONE, 'n');
        return before;
    }

    public int trade(int player, int other) throws IndexOutOfBoundsException, UnsupportedOperationException {
        needPlayer(player);
        needPlayer(other);
        if (isDressed(player) || isDressed(other) || !roster.canSwap(player, other)) {
            throw new UnsupportedOperationException("the trade is not possible");
        }
        int newClub = roster.clubAt[other];
        int newOther = roster.clubAt[player];
        roster.move(player, newClub, roster.status[player]);
        roster.move(other, newOther, roster.status[other]);
        return roster.sumOfHits(newClub);
    }

    public char injure(int player, boolean is) throws IndexOutOfBoundsException, UnsupportedOperationException {
        needPlayer(player);
        int before = roster.status[player];
        if (before == 'n' || isDressed(player)) {
            throw new UnsupportedOperationException("the player is of no club, or in a line-up");
        }
        if (is) {
            roster.move(player, roster.clubAt[player], 'i');
        } else if (before != 'a') {
            needRoom(player);
            roster.status[player] = 'a';
        }
        return (char) before;
    }

    public boolean down(int player) throws IndexOutOfBoundsException, UnsupportedOperationException {
        needPlayer(player);
        if (roster.status[player] != 'a' || roster.onWaivers[player] == 1 || isDressed(player)) {
            throw new UnsupportedOperationException("the player cannot be sent down");
        }
        return roster.sendDown(player);
    }

    public int recall(int player) throws IndexOutOfBoundsException, UnsupportedOperationException {
        needPlayer(player);
        if (roster.status[player] != 'd') {
            throw new UnsupportedOperationException("the player is not down");
        }
        needRoom(player);
        roster.status[player] = 'a';
        return roster.sumOfHits(roster.clubAt[player]);
    }

    public int claim(int club, int player) throws IndexOutOfBoundsException, UnsupportedOperationException {
        needClub(club);
        needPlayer(player);
        if (!roster.canClaim(club, player)) {
            throw new UnsupportedOperationException("the club cannot claim the player");
        }
        roster.claims[player] |= 1 << club;
        return Integer.bitCount(roster.claims[player]);
    }

    public int pass() throws IllegalStateException {
        if (roster.day >= Roster.LAST_DAY) {
            throw new IllegalStateException("it is the last day");
        }
        for (int player = 0; player < roster.playerCount; player++) {
            if (roster.onWaivers[player] == 1) {
                endWaivers(player);
            }
        }
        return roster.endDay();
    }

    public int ban(int player, int matches) throws IndexOutOfBoundsException, IllegalArgumentException {
        needPlayer(player);
        if (matches < 0 || matches > 40) {
            throw new IllegalArgumentException("the number of matches is out of range");
        }
        roster.bans[player] += matches;
        return roster.bans[player];
    }

    public int banOf(int player) throws IndexOutOfBoundsException {
        needPlayer(player);
        return roster.bans[player];
    }

    public char statusOf(int player) throws IndexOutOfBoundsException {
        needPlayer(player);
        return roster.onWaivers[player] == 1 ? 'w' : (char) roster.status[player];
    }

    public int clubOf(int player) throws IndexOutOfBoundsException {
        needPlayer(player);
        return roster.clubAt[player];
    }

    public int payroll(int club) throws IndexOutOfBoundsException {
        needClub(club);
        return roster.sumOfHits(club);
    }

    public long charge(int club) throws IndexOutOfBoundsException {
        needClub(club);
        return roster.charges[club];
    }

    // ---- a match is laid ----

    public int match(int home, int away, int edition)
            throws IndexOutOfBoundsException, IllegalArgumentException, IllegalStateException {
        needClub(home);
        needClub(away);
        needEdition(edition);
        if (home == away) {
            throw new IllegalArgumentException("both clubs are the same");
        }
        if (isLaid || table.closed >= Table.MOST_MATCHES) {
            throw new IllegalStateException("the last match is not closed, or 40 are");
        }
        lineup.empty(home, away);
        this.edition = edition;
        isLaid = true;
        isBegun = false;
        return table.closed;
    }

    public int dress(int side, int player)
            throws IndexOutOfBoundsException, NoSuchElementException, UnsupportedOperationException {
        if (side < 0 || side > 1) {
            throw new IndexOutOfBoundsException("no such side");
        }
        needPlayer(player);
        needLaid();
        int isGoalie = roster.isGoalie[player];
        if (!roster.isFit(player, lineup.clubs[side]) || isDressed(player) || lineup.isFull(side, isGoalie)) {
            throw new UnsupportedOperationException("the player cannot be in the line-up");
        }
        lineup.add(side, player, isGoalie);
        return lineup.counts[side];
    }

    public int begin() throws NoSuchElementException, UnsupportedOperationException {
        needLaid();
        if (!lineup.isEnough()) {
            throw new UnsupportedOperationException("a line-up is not enough");
        }
        isBegun = true;
        log.count = 0;
        live.open(edition);
        return live.board.countOnIce();
    }

    // ---- events ----

    public char sit() throws NoSuchElementException, UnsupportedOperationException, IllegalStateException {
        needBegun();
        return tell('b', 0, 0, 0);
    }

    public char faceOff(int place)
            throws NoSuchElementException, IllegalArgumentException, UnsupportedOperationException,
            IllegalStateException {
        needBegun();
        needPlace(place);
        return tell('f', place, 0, 0);
    }

    public char run(int tenths)
            throws NoSuchElementException, IllegalArgumentException, UnsupportedOperationException,
            IllegalStateException {
        needBegun();
        if (tenths < 1 || tenths > Board.PERIOD) {
            throw new IllegalArgumentException("the tenths are out of range");
        }
        return tell('t', tenths, 0, 0);
    }

    public char go(int player, int place)
            throws NoSuchElementException, IndexOutOfBoundsException, IllegalArgumentException,
            UnsupportedOperationException, IllegalStateException {
        needBegun();
        needPlayer(player);
        needPlace(place);
        return tell('g', player, place, 0);
    }

    public char touch(int player)
            throws NoSuchElementException, IndexOutOfBoundsException, UnsupportedOperationException,
            IllegalStateException {
        needBegun();
        needPlayer(player);
        return tell('u', player, 0, 0);
    }

    public char send(int place)
            throws NoSuchElementException, IllegalArgumentException, UnsupportedOperationException,
            IllegalStateException {
        needBegun();
        needPlace(place);
        return tell('s', place, 0, 0);
    }

    public char carry(int place)
            throws NoSuchElementException, IllegalArgumentException, UnsupportedOperationException,
            IllegalStateException {
        needBegun();
        needPlace(place);
        return tell('c', place, 0, 0);
    }

    public char race(int side)
            throws NoSuchElementException, IllegalArgumentException, UnsupportedOperationException,
            IllegalStateException {
        needBegun();
        needSide(side);
        return tell('r', side, 0, 0);
    }

    public char change(int player, int other)
            throws NoSuchElementException, IndexOutOfBoundsException, UnsupportedOperationException,
            IllegalStateException {
        needBegun();
        needPlayer(player);
        needPlayer(other);
        return tell('h', player, other, 0);
    }

    public char leave(int player)
            throws NoSuchElementException, IndexOutOfBoundsException, UnsupportedOperationException,
            IllegalStateException {
        needBegun();
        needPlayer(player);
        return tell('l', player, 0, 0);
    }

    public char enter(int player)
            throws NoSuchElementException, IndexOutOfBoundsException, UnsupportedOperationException,
            IllegalStateException {
        needBegun();
        needPlayer(player);
        return tell('e', player, 0, 0);
    }

    public char penalty(int player, char kind, int server)
            throws NoSuchElementException, IndexOutOfBoundsException, IllegalArgumentException,
            UnsupportedOperationException, IllegalStateException {
        needBegun();
        needPlayer(player);
        needPlayer(server);
        if (kind != 'm' && kind != '2' && kind != 'M' && kind != 'x' && kind != 'X') {
            throw new IllegalArgumentException("no such kind of penalty");
        }
        return tell('p', player, kind, server);
    }

    public char stop() throws NoSuchElementException, UnsupportedOperationException, IllegalStateException {
        needBegun();
        return tell('z', 0, 0, 0);
    }

    public char goal(int scorer, int first, int second)
            throws NoSuchElementException, IndexOutOfBoundsException, IllegalArgumentException,
            UnsupportedOperationException, IllegalStateException {
        needBegun();
        needPlayer(scorer);
        needAssists(first, second);
        if (scorer == first || scorer == second || areWrong(first, second)) {
            throw new IllegalArgumentException("two are the same, or the first assist is missing");
        }
        return tell('G', scorer, first, second);
    }

    public char review(char kind)
            throws NoSuchElementException, IllegalArgumentException, UnsupportedOperationException,
            IllegalStateException {
        needBegun();
        if (kind != 'k' && kind != 'o') {
            throw new IllegalArgumentException("no such kind of review");
        }
        return tell('v', kind, 0, 0);
    }

    public char shoot(int player, boolean isGoal)
            throws NoSuchElementException, IndexOutOfBoundsException, UnsupportedOperationException,
            IllegalStateException {
        needBegun();
        needPlayer(player);
        return tell('S', player, isGoal ? 1 : 0, 0);
    }

    public int close() throws NoSuchElementException, IllegalStateException {
        needBegun();
        Board board = live.board;
        if (board.phase != 'e') {
            throw new IllegalStateException("the match has not ended");
        }
        table.addMatch(lineup.clubs, board.score, board.isLate());
        closedTally.addAll(board.tally);
        roster.countMatch(lineup);
        for (int slot = 0; slot < Lineup.SLOTS; slot++) {
            if (board.place[slot] == Board.OUT) {
                roster.bans[lineup.playerAt[slot]] += 2;
            }
        }
        isLaid = false;
        isBegun = false;
        return table.closed;
    }

    // ---- how the match stands ----

    public char phase() {
        return isBegun ? (char) live.board.phase : '-';
    }

    public int period() throws NoSuchElementException {
        needBegun();
        return live.board.period;
    }

    public int clock() throws NoSuchElementException {
        needBegun();
        return live.board.clock;
    }

    public int score(int side) throws NoSuchElementException, IllegalArgumentException {
        needBegun();
        needSide(side);
        return live.board.score[side];
    }

    public int placeOf(int player) throws NoSuchElementException, IndexOutOfBoundsException {
        needBegun();
        needPlayer(player);
        int slot = lineup.slotOf[player];
        return slot < 0 ? Board.NOWHERE : live.board.place[slot];
    }

    public int puck() throws NoSuchElementException {
        needBegun();
        return live.board.puck;
    }

    public int having(boolean isSent) throws NoSuchElementException {
        needBegun();
        return isSent ? live.board.sent : live.board.having;
    }

    public boolean isOffside(int side) throws NoSuchElementException, IllegalArgumentException {
        needBegun();
        needSide(side);
        return live.board.offside[side] == 1;
    }

    public int may(int side) throws NoSuchElementException, IllegalArgumentException {
        needBegun();
        needSide(side);
        return live.board.mostSkaters(side);
    }

    public int running(int side, boolean counts) throws NoSuchElementException, IllegalArgumentException {
        needBegun();
        needSide(side);
        return live.board.box.countRunning(side, counts ? 1 : 0);
    }

    public int waiting(int side) throws NoSuchElementException, IllegalArgumentException {
        needBegun();
        needSide(side);
        return live.board.calls.countFor(side) + live.board.box.countIdle(side);
    }

    public int leftOf(int player) throws NoSuchElementException, IndexOutOfBoundsException {
        needBegun();
        needPlayer(player);
        int slot = lineup.slotOf[player];
        return slot < 0 ? 0 : live.board.box.tenthsOf(slot);
    }

    public int shots(int side, boolean areGoals) throws NoSuchElementException, IllegalArgumentException {
        needBegun();
        needSide(side);
        return areGoals ? live.board.shotGoals[side] : live.board.shotCount[side];
    }

    // ---- what hangs on events ----

    public int events() throws NoSuchElementException {
        needBegun();
        return log.count;
    }

    public char eventAt(int index) throws NoSuchElementException, IndexOutOfBoundsException {
        needBegun();
        needEvent(index);
        return (char) log.kind[index];
    }

    public int strike(int index) throws NoSuchElementException, IndexOutOfBoundsException {
        needBegun();
        needEvent(index);
        log.drop(index);
        scratch.open(edition);
        scratch.retell(log, log.count);
        log.dropImpossible();
        swapGames();
        return log.count;
    }

    public int amend(int index, int first, int second)
            throws NoSuchElementException, IndexOutOfBoundsException, IllegalArgumentException,
            UnsupportedOperationException {
        needBegun();
        needEvent(index);
        needAssists(first, second);
        boolean isGoal = log.kind[index] == 'G';
        int scorer = log.a[index];
        if (areWrong(first, second) || isGoal && (scorer == first || scorer == second)) {
            throw new IllegalArgumentException("two are the same, or the first assist is missing");
        }
        if (!isGoal) {
            throw new UnsupportedOperationException("the event is not a goal");
        }
        scratch.open(edition);
        scratch.retell(log, index);
        if (!scratch.judge.allows('G', scorer, first, second)) {
            throw new UnsupportedOperationException("the goal were not possible so");
        }
        log.b[index] = first;
        log.c[index] = second;
        scratch.open(edition);
        scratch.retell(log, log.count);
        swapGames();
        return log.count;
    }

    public int again(int edition, int side) throws NoSuchElementException, IllegalArgumentException {
        needBegun();
        needEdition(edition);
        needSide(side);
        scratch.open(edition);
        scratch.retell(log, log.count);
        return scratch.board.score[side];
    }

    public char why() throws NoSuchElementException {
        needRefusal();
        return (char) whyLetter;
    }

    public int whyNumber() throws NoSuchElementException {
        needRefusal();
        return whyNumber;
    }

    // ---- the table and sums ----

    public int tally(int player, char what) throws IndexOutOfBoundsException, IllegalArgumentException {
        needPlayer(player);
        if (what != 'g' && what != 'a' && what != '+' && what != 'p') {
            throw new IllegalArgumentException("no such what");
        }
        return amount(player, what);
    }

    public int points(int club) throws IndexOutOfBoundsException {
        needClub(club);
        return table.points[club];
    }

    public int ranked(int rank) throws IndexOutOfBoundsException {
        needClub(rank);
        return table.clubAtRank(rank, roster.clubCount);
    }

    public float wonShare(int club) throws IndexOutOfBoundsException, ArithmeticException {
        needClub(club);
        if (table.played[club] == 0) {
            throw new ArithmeticException("the club has no closed match");
        }
        return (float) table.won[club] / (float) table.played[club];
    }

    public double meanGoals() throws ArithmeticException {
        if (table.closed == 0) {
            throw new ArithmeticException("no match is closed");
        }
        return (double) table.allGoals / (double) table.closed;
    }

    public long checksum() {
        long sum = 7;
        for (int player = 0; player < roster.playerCount; player++) {
            sum = 31 * sum + (roster.clubAt[player] + 1) + 10 * roster.bans[player] + 100 * amount(player, '+');
        }
        for (int club = 0; club < roster.clubCount; club++) {
            sum = 31 * sum + table.points[club] + roster.charges[club];
        }
        return sum;
    }

    public boolean isSound() {
        if (!roster.isUnderCap()) {
            return false;
        }
        if (!isBegun) {
            return true;
        }
        scratch.open(edition);
        scratch.retell(log, log.count);
        return lineup.isWhole() && live.board.isWhole() && live.board.isSame(scratch.board);
    }

    // ---- what the face shares ----

    private void needPlayer(int player) {
        if (player < 0 || player >= roster.playerCount) {
            throw new IndexOutOfBoundsException("no such player");
        }
    }

    private void needAssists(int first, int second) {
        if (first != NONE) {
            needPlayer(first);
        }
        if (second != NONE) {
            needPlayer(second);
        }
    }

    private static boolean areWrong(int first, int second) {
        return second != NONE && (first == NONE || first == second);
    }

    private void needClub(int club) {
        if (club < 0 || club >= roster.clubCount) {
            throw new IndexOutOfBoundsException("no such club");
        }
    }

    private static void needSide(int side) {
        if (side < 0 || side > 1) {
            throw new IllegalArgumentException("no such side");
        }
    }

    private static void needPlace(int place) {
        if (place < 0 || place > 3) {
            throw new IllegalArgumentException("no such place");
        }
    }

    private static void needEdition(int edition) {
        if (edition < 0 || edition > 31) {
            throw new IllegalArgumentException("the edition is out of range");
        }
    }

    private void needEvent(int index) {
        if (index < 0 || index >= log.count) {
            throw new IndexOutOfBoundsException("no such event");
        }
    }

    private void needLaid() {
        if (!isLaid || isBegun) {
            throw new NoSuchElementException("no match is laid that has not begun");
        }
    }

    private void needBegun() {
        if (!isBegun) {
            throw new NoSuchElementException("no match was begun, or it is closed");
        }
    }

    private void needRefusal() {
        if (whyLetter == 0) {
            throw new NoSuchElementException("no event was refused");
        }
    }

    private void needRoom(int player) {
        if (!roster.hasRoom(roster.clubAt[player], player)) {
            throw new UnsupportedOperationException("the payroll would be more than the cap");
        }
    }

    private boolean isDressed(int player) {
        return isLaid && lineup.slotOf[player] >= 0;
    }

    private void endWaivers(int player) {
        int winner = NONE;
        for (int rank = 0; rank < roster.clubCount; rank++) {
            int club = table.clubAtRank(rank, roster.clubCount);
            if ((roster.claims[player] >> club & 1) == 1 && roster.hasRoom(club, player)) {
                winner = club;
            }
        }
        if (winner == NONE) {
            roster.move(player, roster.clubAt[player], 'd');
        } else {
            roster.move(player, winner, 'a');
        }
    }

    private char tell(int kind, int a, int b, int c) {
        if (!live.judge.allows(kind, a, b, c)) {
            whyLetter = live.judge.letter;
            whyNumber = live.judge.number;
            throw new UnsupportedOperationException("the event is not possible");
        }
        if (log.count >= Log.MOST) {
            throw new IllegalStateException("there are 200 events");
        }
        log.add(kind, a, b, c);
        live.perform(kind, a, b, c);
        return (char) live.board.phase;
    }

    private void swapGames() {
        Game other = live;
        live = scratch;
        scratch = other;
    }

    private int amount(int player, int what) {
        int sum = closedTally.amountOf(player, what);
        return isBegun ? sum + live.board.tally.amountOf(player, what) : sum;
    }

    /** The clubs' players: hits, status, waivers, bans, and what clubs are charged. */
    private static final class Roster {
        private static final int MOST_CLUBS = 6;
        private static final int MOST_PLAYERS = 60;
        private static final int LAST_DAY = 999;
        private static final int WAIVER_MATCHES = 3;

        private int clubCount;
        private int playerCount;
        private int cap = 5000;
        private boolean wasCapLowered;
        private int day;
        private final long[] charges = new long[MOST_CLUBS];
        private final int[] isGoalie = new int[MOST_PLAYERS];
        private final int[] hits = new int[MOST_PLAYERS];
        private final int[] clubAt = new int[MOST_PLAYERS];
        private final int[] status = new int[MOST_PLAYERS];
        private final int[] onWaivers = new int[MOST_PLAYERS];
        // One bit for each club that claims the player.
        private final int[] claims = new int[MOST_PLAYERS];
        private final int[] bans = new int[MOST_PLAYERS];
        private final int[] matches = new int[MOST_PLAYERS];

        private Roster() {
        }

        private int addClub() {
            clubCount++;
            return clubCount - 1;
        }

        private int addPlayer(boolean isKeeper, int hit) {
            int player = playerCount;
            isGoalie[player] = isKeeper ? 1 : 0;
            hits[player] = hit;
            clubAt[player] = NONE;
            status[player] = 'n';
            playerCount++;
            return player;
        }

        private int replaceCap(int newCap) {
            int before = cap;
            cap = newCap;
            if (newCap < before) {
                wasCapLowered = true;
            }
            return before;
        }

        private int sumOfHits(int club) {
            int sum = 0;
            for (int player = 0; player < playerCount; player++) {
                if (clubAt[player] == club && status[player] == 'a') {
                    sum += hits[player];
                }
            }
            return sum;
        }

        private boolean hasRoom(int club, int player) {
            return sumOfHits(club) + hits[player] <= cap;
        }

        private int paidHit(int player) {
            return status[player] == 'a' ? hits[player] : 0;
        }

        private boolean canSwap(int player, int other) {
            int one = clubAt[player];
            int two = clubAt[other];
            if (one == NONE || two == NONE || one == two) {
                return false;
            }
            int rise = paidHit(other) - paidHit(player);
            return fits(one, rise) && fits(two, -rise);
        }

        private boolean fits(int club, int rise) {
            return rise <= 0 || sumOfHits(club) + rise <= cap;
        }

        private void move(int player, int club, int newStatus) {
            clubAt[player] = club;
            status[player] = newStatus;
            onWaivers[player] = 0;
            claims[player] = 0;
        }

        private boolean sendDown(int player) {
            if (matches[player] >= WAIVER_MATCHES) {
                onWaivers[player] = 1;
                return false;
            }
            status[player] = 'd';
            return true;
        }

        private boolean canClaim(int club, int player) {
            return onWaivers[player] == 1 && clubAt[player] != club && (claims[player] >> club & 1) == 0;
        }

        private boolean isFit(int player, int club) {
            return clubAt[player] == club && status[player] == 'a' && onWaivers[player] == 0 && bans[player] == 0;
        }

        private int endDay() {
            for (int club = 0; club < clubCount; club++) {
                charges[club] += sumOfHits(club);
            }
            day++;
            return day;
        }

        private void countMatch(Lineup lineup) {
            for (int player = 0; player < playerCount; player++) {
                boolean isOfMatch = clubAt[player] == lineup.clubs[0] || clubAt[player] == lineup.clubs[1];
                if (lineup.slotOf[player] >= 0) {
                    matches[player]++;
                } else if (isOfMatch && bans[player] > 0) {
                    bans[player]--;
                }
            }
        }

        private boolean isUnderCap() {
            for (int club = 0; club < clubCount; club++) {
                if (!wasCapLowered && sumOfHits(club) > cap) {
                    return false;
                }
            }
            return true;
        }
    }

    /** What the closed matches gave to the clubs. */
    private static final class Table {
        private static final int MOST_MATCHES = 40;

        private int closed;
        private int allGoals;
        private final int[] points = new int[Roster.MOST_CLUBS];
        private final int[] played = new int[Roster.MOST_CLUBS];
        private final int[] won = new int[Roster.MOST_CLUBS];
        private final int[] wonInTime = new int[Roster.MOST_CLUBS];
        private final int[] goalsMade = new int[Roster.MOST_CLUBS];
        private final int[] goalsAgainst = new int[Roster.MOST_CLUBS];

        private Table() {
        }

        private void addMatch(int[] clubs, int[] goals, boolean isLate) {
            closed++;
            allGoals += goals[0] + goals[1];
            for (int side = 0; side < 2; side++) {
                addResult(clubs[side], goals[side], goals[1 - side], isLate);
            }
        }

        private void addResult(int club, int made, int against, boolean isLate) {
            played[club]++;
            goalsMade[club] += made;
            goalsAgainst[club] += against;
            if (made > against) {
                won[club]++;
                wonInTime[club] += isLate ? 0 : 1;
                points[club] += isLate ? 2 : 3;
            } else if (made == against || isLate) {
                points[club]++;
            }
        }

        private boolean isAhead(int club, int other) {
            if (points[club] != points[other]) {
                return points[club] > points[other];
            }
            if (wonInTime[club] != wonInTime[other]) {
                return wonInTime[club] > wonInTime[other];
            }
            int net = goalsMade[club] - goalsAgainst[club];
            int otherNet = goalsMade[other] - goalsAgainst[other];
            if (net != otherNet) {
                return net > otherNet;
            }
            if (goalsMade[club] != goalsMade[other]) {
                return goalsMade[club] > goalsMade[other];
            }
            return club < other;
        }

        private int rankOf(int club, int clubCount) {
            int rank = 0;
            for (int other = 0; other < clubCount; other++) {
                if (isAhead(other, club)) {
                    rank++;
                }
            }
            return rank;
        }

        private int clubAtRank(int rank, int clubCount) {
            for (int club = 0; club < clubCount; club++) {
                if (rankOf(club, clubCount) == rank) {
                    return club;
                }
            }
            return 0;
        }
    }

    /** Goals, assists, plus and tenths of penalties, by players' numbers. */
    private static final class Tally {
        private static final int SIZE = Roster.MOST_PLAYERS;

        private final int[] goals = new int[SIZE];
        private final int[] assists = new int[SIZE];
        private final int[] plus = new int[SIZE];
        private final int[] tenths = new int[SIZE];

        private Tally() {
        }

        private int amountOf(int player, int what) {
            switch (what) {
                case 'g':
                    return goals[player];
                case 'a':
                    return assists[player];
                case '+':
                    return plus[player];
                default:
                    return tenths[player];
            }
        }

        private void addAll(Tally other) {
            for (int player = 0; player < SIZE; player++) {
                goals[player] += other.goals[player];
                assists[player] += other.assists[player];
                plus[player] += other.plus[player];
                tenths[player] += other.tenths[player];
            }
        }

        private void clear() {
            for (int player = 0; player < SIZE; player++) {
                goals[player] = 0;
                assists[player] = 0;
                plus[player] = 0;
                tenths[player] = 0;
            }
        }

        private void copyFrom(Tally other) {
            System.arraycopy(other.goals, 0, goals, 0, SIZE);
            System.arraycopy(other.assists, 0, assists, 0, SIZE);
            System.arraycopy(other.plus, 0, plus, 0, SIZE);
            System.arraycopy(other.tenths, 0, tenths, 0, SIZE);
        }

        private boolean isSame(Tally other) {
            for (int player = 0; player < SIZE; player++) {
                boolean isUnlike = goals[player] != other.goals[player] || assists[player] != other.assists[player]
                        || plus[player] != other.plus[player] || tenths[player] != other.tenths[player];
                if (isUnlike) {
                    return false;
                }
            }
            return true;
        }
    }

    /** Who is in the line-ups; a slot is the side times 12 plus the index in its line-up. */
    private static final class Lineup {
        private static final int SIZE = 12;
        private static final int SLOTS = 2 * SIZE;
        private static final int MOST_GOALIES = 2;
        private static final int LEAST_SKATERS = 5;

        private final int[] clubs = new int[2];
        private final int[] counts = new int[2];
        private final int[] goalies = new int[2];
        private final int[] playerAt = new int[SLOTS];
        private final int[] isGoalie = new int[SLOTS];
        private final int[] slotOf = new int[Roster.MOST_PLAYERS];

        private Lineup() {
        }

        private static int sideOf(int slot) {
            return slot < SIZE ? 0 : 1;
        }

        private void empty(int home, int away) {
            clubs[0] = home;
            clubs[1] = away;
            for (int side = 0; side < 2; side++) {
                counts[side] = 0;
                goalies[side] = 0;
            }
            for (int slot = 0; slot < SLOTS; slot++) {
                playerAt[slot] = NONE;
                isGoalie[slot] = 0;
            }
            for (int player = 0; player < slotOf.length; player++) {
                slotOf[player] = NONE;
            }
        }

        private boolean isFull(int side, int isKeeper) {
            return counts[side] >= SIZE || isKeeper == 1 && goalies[side] >= MOST_GOALIES;
        }

        private void add(int side, int player, int isKeeper) {
            int slot = side * SIZE + counts[side];
            playerAt[slot] = player;
            isGoalie[slot] = isKeeper;
            slotOf[player] = slot;
            counts[side]++;
            goalies[side] += isKeeper;
        }

        private boolean isEnough() {
            for (int side = 0; side < 2; side++) {
                if (goalies[side] < 1 || counts[side] - goalies[side] < LEAST_SKATERS) {
                    return false;
                }
            }
            return true;
        }

        private boolean isSkater(int slot) {
            return playerAt[slot] >= 0 && isGoalie[slot] == 0;
        }

        private boolean isWhole() {
            for (int slot = 0; slot < SLOTS; slot++) {
                int player = playerAt[slot];
                if (player >= 0 && slotOf[player] != slot) {
                    return false;
                }
            }
            return true;
        }
    }

    /** The events of the match, in their order. */
    private static final class Log {
        private static final int MOST = 200;

        private int count;
        private final int[] kind = new int[MOST];
        private final int[] a = new int[MOST];
        private final int[] b = new int[MOST];
        private final int[] c = new int[MOST];
        private final int[] wasPossible = new int[MOST];

        private Log() {
        }

        private void add(int newKind, int newA, int newB, int newC) {
            kind[count] = newKind;
            a[count] = newA;
            b[count] = newB;
            c[count] = newC;
            count++;
        }

        private void put(int from, int to) {
            kind[to] = kind[from];
            a[to] = a[from];
            b[to] = b[from];
            c[to] = c[from];
        }

        private void drop(int index) {
            for (int from = index + 1; from < count; from++) {
                put(from, from - 1);
            }
            count--;
        }

        private void dropImpossible() {
            int kept = 0;
            for (int from = 0; from < count; from++) {
                if (wasPossible[from] == 1) {
                    put(from, kept);
                    kept++;
                }
            }
            count = kept;
        }
    }

    /** Penalties that were called and wait to begin, in their order. */
    private static final class Calls {
        private static final int MOST = Log.MOST;

        private int count;
        private final int[] side = new int[MOST];
        private final int[] on = new int[MOST];
        private final int[] kind = new int[MOST];
        private final int[] server = new int[MOST];

        private Calls() {
        }

        private void add(int slot, int newKind, int newServer) {
            if (count < MOST) {
                side[count] = Lineup.sideOf(slot);
                on[count] = slot;
                kind[count] = newKind;
                server[count] = newServer;
                count++;
            }
        }

        private int countFor(int of) {
            int sum = 0;
            for (int i = 0; i < count; i++) {
                if (side[i] == of) {
                    sum++;
                }
            }
            return sum;
        }

        private int countMinors(int of) {
            int sum = 0;
            for (int i = 0; i < count; i++) {
                if (side[i] == of) {
                    sum += kind[i] == 'm' ? 1 : kind[i] == '2' ? 2 : 0;
                }
            }
            return sum;
        }

        private int countMajors(int of) {
            int sum = 0;
            for (int i = 0; i < count; i++) {
                if (side[i] == of && (kind[i] == 'M' || kind[i] == 'X')) {
                    sum++;
                }
            }
            return sum;
        }

        private void takeBackMinor(int of) {
            for (int i = 0; i < count; i++) {
                if (side[i] == of && kind[i] == '2') {
                    kind[i] = 'm';
                    return;
                }
                if (side[i] == of && kind[i] == 'm') {
                    drop(i);
                    return;
                }
            }
        }

        private void drop(int index) {
            for (int i = index + 1; i < count; i++) {
                side[i - 1] = side[i];
                on[i - 1] = on[i];
                kind[i - 1] = kind[i];
                server[i - 1] = server[i];
            }
            count--;
        }

        private void copyFrom(Calls other) {
            count = other.count;
            System.arraycopy(other.side, 0, side, 0, count);
            System.arraycopy(other.on, 0, on, 0, count);
            System.arraycopy(other.kind, 0, kind, 0, count);
            System.arraycopy(other.server, 0, server, 0, count);
        }

        private boolean isSame(Calls other) {
            if (count != other.count) {
                return false;
            }
            for (int i = 0; i < count; i++) {
                if (on[i] != other.on[i] || kind[i] != other.kind[i] || server[i] != other.server[i]) {
                    return false;
                }
            }
            return true;
        }
    }

    /** Penalties that began and did not end, of both sides, in the order in which they began. */
    private static final class Box {
        // Each of 200 events can call two minors.
        private static final int MOST = 2 * Log.MOST;
        private static final int MOST_COUNTING = 2;

        private int count;
        private final int[] side = new int[MOST];
        private final int[] server = new int[MOST];
        private final int[] left = new int[MOST];
        private final int[] counts = new int[MOST];
        private final int[] isMinor = new int[MOST];
        private final int[] runs = new int[MOST];
        // How many that count run for each side; the marks are set anew whenever the list has changed.
        private final int[] counting = new int[2];

        private Box() {
        }

        private void clear() {
            count = 0;
            counting[0] = 0;
            counting[1] = 0;
        }

        private void add(int newSide, int newServer, int tenths, int doesCount, int minor) {
            if (count < MOST) {
                side[count] = newSide;
                server[count] = newServer;
                left[count] = tenths;
                counts[count] = doesCount;
                isMinor[count] = minor;
                runs[count] = 0;
                count++;
            }
        }

        private void drop(int index) {
            for (int i = index + 1; i < count; i++) {
                side[i - 1] = side[i];
                server[i - 1] = server[i];
                left[i - 1] = left[i];
                counts[i - 1] = counts[i];
                isMinor[i - 1] = isMinor[i];
            }
            count--;
            markRunning();
        }

        private void markRunning() {
            counting[0] = 0;
            counting[1] = 0;
            int busy = 0;
            for (int i = 0; i < count; i++) {
                boolean isFree = (busy >> server[i] & 1) == 0;
                boolean hasRoom = counts[i] == 0 || counting[side[i]] < MOST_COUNTING;
                runs[i] = isFree && hasRoom ? 1 : 0;
                counting[side[i]] += runs[i] * counts[i];
                busy |= 1 << server[i];
            }
        }

        private int soonestEnd(int limit) {
            int least = limit;
            for (int i = 0; i < count; i++) {
                if (runs[i] == 1 && left[i] < least) {
                    least = left[i];
                }
            }
            return least;
        }

        private void passTenths(int tenths) {
            for (int i = 0; i < count; i++) {
                left[i] -= runs[i] * tenths;
            }
        }

        private int firstEnded() {
            for (int of = 0; of < 2; of++) {
                for (int i = 0; i < count; i++) {
                    if (side[i] == of && left[i] <= 0) {
                        return i;
                    }
                }
            }
            return NONE;
        }

        private void endRunningMinor(int of) {
            for (int i = 0; i < count; i++) {
                if (side[i] == of && runs[i] * counts[i] * isMinor[i] == 1) {
                    drop(i);
                    return;
                }
            }
        }

        private boolean isServedBy(int slot) {
            for (int i = 0; i < count; i++) {
                if (server[i] == slot) {
                    return true;
                }
            }
            return false;
        }

        private boolean hasCounting() {
            for (int i = 0; i < count; i++) {
                if (counts[i] == 1) {
                    return true;
                }
            }
            return false;
        }

        private int countRunning(int of, int doesCount) {
            int sum = 0;
            for (int i = 0; i < count; i++) {
                if (side[i] == of && counts[i] == doesCount) {
                    sum += runs[i];
                }
            }
            return sum;
        }

        private int countIdle(int of) {
            int sum = 0;
            for (int i = 0; i < count; i++) {
                if (side[i] == of) {
                    sum += 1 - runs[i];
                }
            }
            return sum;
        }

        private int tenthsOf(int slot) {
            int sum = 0;
            for (int i = 0; i < count; i++) {
                if (server[i] == slot) {
                    sum += left[i];
                }
            }
            return sum;
        }

        private void copyFrom(Box other) {
            count = other.count;
            System.arraycopy(other.side, 0, side, 0, count);
            System.arraycopy(other.server, 0, server, 0, count);
            System.arraycopy(other.left, 0, left, 0, count);
            System.arraycopy(other.counts, 0, counts, 0, count);
            System.arraycopy(other.isMinor, 0, isMinor, 0, count);
            System.arraycopy(other.runs, 0, runs, 0, count);
            System.arraycopy(other.counting, 0, counting, 0, 2);
        }

        private boolean isSame(Box other) {
            if (count != other.count) {
                return false;
            }
            for (int i = 0; i < count; i++) {
                boolean isUnlike = side[i] != other.side[i] || server[i] != other.server[i]
                        || left[i] != other.left[i] || counts[i] != other.counts[i]
                        || isMinor[i] != other.isMinor[i] || runs[i] != other.runs[i];
                if (isUnlike) {
                    return false;
                }
            }
            return true;
        }
    }

    /** How a match stands: all that a review can bring back. */
    private static final class Board {
        private static final int PERIOD = 12000;
        private static final int OVERTIME = 3000;
        private static final int BENCH = -1;
        private static final int BOXED = -2;
        private static final int OUT = -3;
        private static final int NOWHERE = -4;

        private final Lineup lineup;
        private final Calls calls = new Calls();
        private final Box box = new Box();
        private final Tally tally = new Tally();
        private final int[] score = new int[2];
        private final int[] offside = new int[2];
        private final int[] shotCount = new int[2];
        private final int[] shotGoals = new int[2];
        private final int[] shotsBy = new int[Lineup.SLOTS];
        private final int[] place = new int[Lineup.SLOTS];
        // Whether the side had an entry since the last face-off.
        private final int[] hasEntered = new int[2];
        private int phase;
        private int period;
        private int clock;
        private int puck;
        private int having;
        private int sent;
        // The slot of who touched the puck last.
        private int toucher;
        // The side of the goal told just ahead, if the last event was one.
        private int goalSide;

        private Board(Lineup lineup) {
            this.lineup = lineup;
        }

        private void open() {
            phase = 's';
            period = 1;
            clock = PERIOD;
            puck = 1;
            having = NONE;
            sent = NONE;
            toucher = NONE;
            goalSide = NONE;
            calls.count = 0;
            box.clear();
            tally.clear();
            for (int side = 0; side < 2; side++) {
                score[side] = 0;
                offside[side] = 0;
                shotCount[side] = 0;
                shotGoals[side] = 0;
                hasEntered[side] = 0;
                placeFirst(side);
            }
        }

        private void placeFirst(int side) {
            int skaters = 0;
            int goalies = 0;
            int first = side * Lineup.SIZE;
            for (int slot = first; slot < first + Lineup.SIZE; slot++) {
                boolean isOnIce = false;
                if (lineup.isSkater(slot)) {
                    skaters++;
                    isOnIce = skaters <= Lineup.LEAST_SKATERS;
                } else if (lineup.playerAt[slot] >= 0) {
                    goalies++;
                    isOnIce = goalies == 1;
                }
                place[slot] = isOnIce ? gateOf(side) : lineup.playerAt[slot] >= 0 ? BENCH : NOWHERE;
                shotsBy[slot] = 0;
            }
        }

        private static int gateOf(int side) {
            return side == 0 ? 1 : 2;
        }

        private static int farEndOf(int side) {
            return side == 0 ? 3 : 0;
        }

        private static boolean isOwnHalf(int side, int spot) {
            return side == 0 ? spot <= 1 : spot >= 2;
        }

        private int countOnIce() {
            int sum = 0;
            for (int slot = 0; slot < Lineup.SLOTS; slot++) {
                sum += place[slot] >= 0 ? 1 : 0;
            }
            return sum;
        }

        private int countSkaters(int side) {
            int sum = 0;
            int first = side * Lineup.SIZE;
            for (int slot = first; slot < first + Lineup.SIZE; slot++) {
                sum += place[slot] >= 0 && lineup.isGoalie[slot] == 0 ? 1 : 0;
            }
            return sum;
        }

        private boolean hasGoalie(int side) {
            int first = side * Lineup.SIZE;
            for (int slot = first; slot < first + Lineup.SIZE; slot++) {
                if (place[slot] >= 0 && lineup.isGoalie[slot] == 1) {
                    return true;
                }
            }
            return false;
        }

        private int mostSkaters(int side) {
            int most = period == 4 ? 3 + box.counting[1 - side] : 5 - box.counting[side];
            int first = side * Lineup.SIZE;
            for (int slot = first; slot < first + Lineup.SIZE; slot++) {
                if (place[slot] >= 0 && lineup.isGoalie[slot] == 1) {
                    return most;
                }
            }
            return most + 1;
        }

        private boolean isShort(int side) {
            return box.counting[side] > box.counting[1 - side];
        }

        private boolean hasSkaterAtFarEnd(int side, int butSlot) {
            int first = side * Lineup.SIZE;
            for (int slot = first; slot < first + Lineup.SIZE; slot++) {
                if (slot != butSlot && place[slot] == farEndOf(side) && lineup.isGoalie[slot] == 0) {
                    return true;
                }
            }
            return false;
        }

        private void refreshOffside() {
            for (int side = 0; side < 2; side++) {
                if (puck != farEndOf(side) || !hasSkaterAtFarEnd(side, NONE)) {
                    offside[side] = 0;
                }
            }
        }

        private boolean isControlledBy(int side) {
            return having == side || sent == side;
        }

        private boolean isLate() {
            return period == 4 || shotCount[0] > 0;
        }

        private void halt() {
            endPlay();
            phase = 's';
            sendSurplusOff();
        }

        private void endPlay() {
            for (int slot = 0; slot < Lineup.SLOTS; slot++) {
                if (place[slot] == BOXED && !box.isServedBy(slot)) {
                    place[slot] = BENCH;
                }
            }
            offside[0] = 0;
            offside[1] = 0;
            having = NONE;
            sent = NONE;
        }

        private void sendSurplusOff() {
            for (int side = 0; side < 2; side++) {
                int surplus = countSkaters(side) - mostSkaters(side);
                int first = side * Lineup.SIZE;
                for (int slot = first + Lineup.SIZE - 1; slot >= first && surplus > 0; slot--) {
                    if (place[slot] >= 0 && lineup.isGoalie[slot] == 0) {
                        place[slot] = BENCH;
                        surplus--;
                    }
                }
            }
        }

        private void copyFrom(Board other) {
            calls.copyFrom(other.calls);
            box.copyFrom(other.box);
            tally.copyFrom(other.tally);
            System.arraycopy(other.score, 0, score, 0, 2);
            System.arraycopy(other.offside, 0, offside, 0, 2);
            System.arraycopy(other.shotCount, 0, shotCount, 0, 2);
            System.arraycopy(other.shotGoals, 0, shotGoals, 0, 2);
            System.arraycopy(other.hasEntered, 0, hasEntered, 0, 2);
            System.arraycopy(other.shotsBy, 0, shotsBy, 0, Lineup.SLOTS);
            System.arraycopy(other.place, 0, place, 0, Lineup.SLOTS);
            phase = other.phase;
            period = other.period;
            clock = other.clock;
            puck = other.puck;
            having = other.having;
            sent = other.sent;
            toucher = other.toucher;
            goalSide = other.goalSide;
        }

        private boolean isWhole() {
            return box.counting[0] <= Box.MOST_COUNTING && box.counting[1] <= Box.MOST_COUNTING;
        }

        private boolean isSame(Board other) {
            boolean isLike = phase == other.phase && period == other.period && clock == other.clock
                    && puck == other.puck && having == other.having && sent == other.sent
                    && toucher == other.toucher && goalSide == other.goalSide;
            for (int side = 0; side < 2; side++) {
                isLike = isLike && score[side] == other.score[side] && offside[side] == other.offside[side]
                        && shotCount[side] == other.shotCount[side] && shotGoals[side] == other.shotGoals[side]
                        && hasEntered[side] == other.hasEntered[side];
            }
            for (int slot = 0; slot < Lineup.SLOTS; slot++) {
                isLike = isLike && place[slot] == other.place[slot] && shotsBy[slot] == other.shotsBy[slot];
            }
            return isLike && calls.isSame(other.calls) && box.isSame(other.box) && tally.isSame(other.tally);
        }
    }

    /** Tells whether an event is possible as things are, and if not, why. */
    private static final class Judge {
        private final Lineup lineup;
        private final Board board;
        private int letter;
        private int number;

        private Judge(Lineup lineup, Board board) {
            this.lineup = lineup;
            this.board = board;
        }

        private boolean allows(int kind, int a, int b, int c) {
            if (!isPhaseFor(kind)) {
                return refuse('s', board.phase);
            }
            switch (kind) {
                case 't':
                    return a <= board.clock || refuse('t', board.clock);
                case 'g':
                case 'l':
                    return isOnIce(a) || refuse('i', a);
                case 'u':
                    return allowsTouch(a);
                case 's':
                    return board.having != NONE || refuse('h', NONE);
                case 'c':
                    return allowsCarry();
                case 'h':
                    return allowsChange(a, b);
                case 'e':
                    return allowsEnter(a);
                case 'p':
                    return allowsPenalty(a, b, c);
                case 'G':
                    return allowsGoal(a, b, c);
                case 'v':
                    return allowsReview(a);
                case 'S':
                    return canShoot(lineup.slotOf[a]) || refuse('v', a);
                default:
                    return true;
            }
        }

        private boolean refuse(int newLetter, int newNumber) {
            letter = newLetter;
            number = newNumber;
            return false;
        }

        private boolean isPhaseFor(int kind) {
            switch (kind) {
                case 'f':
                case 'b':
                    return board.phase == 's';
                case 'h':
                case 'l':
                case 'e':
                case 'p':
                    return board.phase == 's' || board.phase == 'p';
                case 'r':
                    return board.phase == 'r';
                case 'v':
                    return board.goalSide != NONE;
                case 'S':
                    return board.phase == 'o';
                default:
                    return board.phase == 'p';
            }
        }

        private int placeAt(int player) {
            int slot = lineup.slotOf[player];
            return slot < 0 ? Board.NOWHERE : board.place[slot];
        }

        private boolean isOnIce(int player) {
            return placeAt(player) >= 0;
        }

        private boolean allowsTouch(int player) {
            if (!isOnIce(player)) {
                return refuse('i', player);
            }
            return placeAt(player) == board.puck || refuse('q', board.puck);
        }

        private boolean allowsCarry() {
            int slot = board.toucher;
            if (board.having == NONE || slot < 0) {
                return refuse('h', NONE);
            }
            if (board.place[slot] < 0) {
                return refuse('i', lineup.playerAt[slot]);
            }
            return board.place[slot] == board.puck || refuse('q', board.puck);
        }

        private boolean allowsChange(int player, int other) {
            if (!isOnIce(player)) {
                return refuse('i', player);
            }
            int slot = lineup.slotOf[player];
            int otherSlot = lineup.slotOf[other];
            if (placeAt(other) != Board.BENCH || Lineup.sideOf(slot) != Lineup.sideOf(otherSlot)) {
                return refuse('b', other);
            }
            return lineup.isGoalie[slot] == lineup.isGoalie[otherSlot] || refuse('g', other);
        }

        private boolean allowsEnter(int player) {
            if (placeAt(player) != Board.BENCH) {
                return refuse('b', player);
            }
            int slot = lineup.slotOf[player];
            int side = Lineup.sideOf(slot);
            if (lineup.isGoalie[slot] == 1) {
                return !board.hasGoalie(side) || refuse('g', player);
            }
            int most = board.mostSkaters(side);
            return board.phase == 'p' || board.countSkaters(side) < most || refuse('n', most);
        }

        private boolean allowsPenalty(int player, int kind, int server) {
            int slot = lineup.slotOf[player];
            if (!canBeCalledOn(slot)) {
                return refuse('v', player);
            }
            return canServe(slot, kind, lineup.slotOf[server]) || refuse('v', server);
        }

        private boolean canCall(int slot, int kind, int server) {
            return canBeCalledOn(slot) && canServe(slot, kind, server);
        }

        private boolean canBeCalledOn(int slot) {
            return slot >= 0 && board.place[slot] != Board.OUT;
        }

        private boolean canServe(int slot, int kind, int server) {
            if (lineup.isGoalie[slot] == 0 && kind != 'X') {
                return server == slot;
            }
            if (server < 0 || server == slot || lineup.isGoalie[server] == 1) {
                return false;
            }
            return Lineup.sideOf(server) == Lineup.sideOf(slot) && board.place[server] >= Board.BENCH;
        }

        private boolean allowsGoal(int scorer, int first, int second) {
            if (!isOnIce(scorer)) {
                return refuse('i', scorer);
            }
            int slot = lineup.slotOf[scorer];
            if (lineup.isGoalie[slot] == 1) {
                return refuse('g', scorer);
            }
            int side = Lineup.sideOf(slot);
            if (!allowsAssist(side, first) || !allowsAssist(side, second)) {
                return false;
            }
            if (!board.isControlledBy(side)) {
                return refuse('h', board.having);
            }
            if (board.puck != Board.farEndOf(side)) {
                return refuse('q', board.puck);
            }
            return board.offside[side] == 0 || refuse('o', side);
        }

        private boolean allowsAssist(int side, int player) {
            if (player == NONE) {
                return true;
            }
            if (!isOnIce(player)) {
                return refuse('i', player);
            }
            int slot = lineup.slotOf[player];
            if (lineup.isGoalie[slot] == 1) {
                return refuse('g', player);
            }
            return Lineup.sideOf(slot) == side || refuse('i', player);
        }

        private boolean allowsReview(int kind) {
            int side = board.goalSide;
            return kind == 'k' || board.hasEntered[side] == 1 || refuse('o', side);
        }

        private boolean isShooter(int slot) {
            return lineup.isSkater(slot) && board.place[slot] >= Board.BENCH;
        }

        private boolean canShoot(int slot) {
            int turn = board.shotCount[0] == board.shotCount[1] ? 0 : 1;
            if (slot < 0 || Lineup.sideOf(slot) != turn || !isShooter(slot)) {
                return false;
            }
            int first = turn * Lineup.SIZE;
            for (int other = first; other < first + Lineup.SIZE; other++) {
                if (isShooter(other) && board.shotsBy[other] < board.shotsBy[slot]) {
                    return false;
                }
            }
            return true;
        }
    }

    /** Lets events happen on a board, and keeps what reviews look back to. */
    private static final class Game {
        private static final int EDITION_OFFSIDE_WAITS = 1;
        private static final int EDITION_ICING_RACED = 2;
        private static final int EDITION_MINORS_STAY = 4;
        private static final int EDITION_OVERTIME = 8;
        private static final int EDITION_SHOTS = 16;
        private static final int MINOR = 1200;
        private static final int MAJOR = 3000;
        private static final int MISCONDUCT = 6000;

        private final Lineup lineup;
        private final Board board;
        private final Judge judge;
        private final Board beforeGoal;
        private final Board beforeEntryHome;
        private final Board beforeEntryAway;
        // How many minors and majors of each side still cancel, while called penalties begin.
        private final int[] spareMinors = new int[2];
        private final int[] spareMajors = new int[2];
        private int edition;

        private Game(Lineup lineup) {
            this.lineup = lineup;
            board = new Board(lineup);
            judge = new Judge(lineup, board);
            beforeGoal = new Board(lineup);
            beforeEntryHome = new Board(lineup);
            beforeEntryAway = new Board(lineup);
        }

        private void open(int newEdition) {
            edition = newEdition;
            board.open();
        }

        private void retell(Log log, int until) {
            for (int i = 0; i < until; i++) {
                boolean isPossible = judge.allows(log.kind[i], log.a[i], log.b[i], log.c[i]);
                log.wasPossible[i] = isPossible ? 1 : 0;
                if (isPossible) {
                    perform(log.kind[i], log.a[i], log.b[i], log.c[i]);
                }
            }
        }

        private void perform(int kind, int a, int b, int c) {
            int goalSide = board.goalSide;
            board.goalSide = NONE;
            switch (kind) {
                case 'f':
                    makeFaceOff(a);
                    break;
                case 'b':
                    seatCalled();
                    break;
                case 't':
                    passTenths(a);
                    break;
                case 'r':
                    endRace(a);
                    break;
                case 'z':
                    board.halt();
                    break;
                case 'u':
                    touchPuck(lineup.slotOf[a]);
                    break;
                case 's':
                    sendPuck(a);
                    break;
                case 'c':
                    carryPuck(a);
                    break;
                case 'G':
                    makeGoal(a, b, c);
                    break;
                case 'v':
                    refuseGoal(a, goalSide);
                    break;
                case 'S':
                    takeShot(lineup.slotOf[a], b);
                    break;
                case 'p':
                    callPenalty(lineup.slotOf[a], b, lineup.slotOf[c]);
                    break;
                default:
                    movePlayer(kind, lineup.slotOf[a], b);
            }
            board.refreshOffside();
        }

        // To go, a change, to leave, to enter.
        private void movePlayer(int kind, int slot, int b) {
            switch (kind) {
                case 'g':
                    board.place[slot] = b;
                    break;
                case 'h':
                    board.place[lineup.slotOf[b]] = board.place[slot];
                    board.place[slot] = Board.BENCH;
                    break;
                case 'l':
                    board.place[slot] = Board.BENCH;
                    break;
                default:
                    enterIce(slot);
            }
        }

        private void enterIce(int slot) {
            int side = Lineup.sideOf(slot);
            board.place[slot] = Board.gateOf(side);
            boolean isTooMany = board.countSkaters(side) > board.mostSkaters(side);
            if (board.phase == 'p' && lineup.isGoalie[slot] == 0 && isTooMany) {
                board.calls.add(slot, 'm', slot);
                board.halt();
            }
        }

        private void makeFaceOff(int spot) {
            seatCalled();
            board.phase = 'p';
            board.puck = spot;
            board.toucher = NONE;
            board.having = NONE;
            board.sent = NONE;
            board.hasEntered[0] = 0;
            board.hasEntered[1] = 0;
            for (int slot = 0; slot < Lineup.SLOTS; slot++) {
                if (board.place[slot] >= 0) {
                    board.place[slot] = spot;
                }
            }
        }

        private void seatCalled() {
            beginCalled();
            board.sendSurplusOff();
        }

        private void endRace(int side) {
            if (side == board.sent) {
                board.phase = 'p';
            } else {
                board.halt();
            }
        }

        private void touchPuck(int slot) {
            int side = Lineup.sideOf(slot);
            board.toucher = slot;
            board.having = side;
            if (board.offside[side] == 1 || board.calls.countFor(side) > 0) {
                board.halt();
            }
        }

        private void sendPuck(int spot) {
            int side = board.having;
            int from = board.puck;
            rememberEntry(side, from, spot);
            board.puck = spot;
            board.having = NONE;
            board.sent = side;
            boolean isEntry = from != spot && spot == Board.farEndOf(side);
            if (isEntry && !makeOffside(side) && Board.isOwnHalf(side, from) && !board.isShort(side)) {
                makeIcing();
            }
        }

        private void carryPuck(int spot) {
            int side = board.having;
            int from = board.puck;
            rememberEntry(side, from, spot);
            board.puck = spot;
            board.sent = NONE;
            board.place[board.toucher] = spot;
            if (from != spot && spot == Board.farEndOf(side)) {
                makeOffside(side);
            }
        }

        private void rememberEntry(int side, int from, int spot) {
            if (from == spot || spot != Board.farEndOf(side)) {
                return;
            }
            board.hasEntered[side] = 1;
            Board before = side == 0 ? beforeEntryHome : beforeEntryAway;
            before.copyFrom(board);
        }

        private boolean makeOffside(int side) {
            if (!board.hasSkaterAtFarEnd(side, board.toucher)) {
                return false;
            }
            if (has(EDITION_OFFSIDE_WAITS)) {
                board.offside[side] = 1;
            } else {
                board.halt();
            }
            return true;
        }

        private void makeIcing() {
            if (has(EDITION_ICING_RACED)) {
                board.phase = 'r';
            } else {
                board.halt();
            }
        }

        private boolean has(int part) {
            return (edition & part) != 0;
        }

        private void passTenths(int tenths) {
            int rest = tenths;
            for (int i = 0; i < Board.PERIOD && rest > 0; i++) {
                int step = board.box.soonestEnd(rest);
                board.box.passTenths(step);
                board.clock -= step;
                rest -= step;
                endServed();
            }
            if (board.clock == 0) {
                endPeriod();
            }
        }

        private void endServed() {
            for (int i = 0; i < Box.MOST; i++) {
                int ended = board.box.firstEnded();
                if (ended == NONE) {
                    return;
                }
                endPenalty(ended);
            }
        }

        private void endPenalty(int index) {
            Box box = board.box;
            int server = box.server[index];
            int side = box.side[index];
            boolean doesCount = box.counts[index] == 1;
            box.drop(index);
            // Who served one that does not count waits in the box until play stops; who is out stays out.
            if (doesCount && !box.isServedBy(server) && board.place[server] != Board.OUT) {
                boolean hasRoom = board.countSkaters(side) < board.mostSkaters(side);
                board.place[server] = hasRoom ? Board.gateOf(side) : Board.BENCH;
            }
        }

        private void endPeriod() {
            board.endPlay();
            board.phase = 's';
            boolean isAlike = board.score[0] == board.score[1];
            if (board.period < 3) {
                board.period++;
                board.clock = Board.PERIOD;
            } else if (isAlike && board.period == 3 && has(EDITION_OVERTIME)) {
                board.period = 4;
                board.clock = Board.OVERTIME;
            } else if (isAlike && has(EDITION_SHOTS)) {
                board.phase = 'o';
                beginCalled();
            } else {
                board.phase = 'e';
            }
            board.sendSurplusOff();
        }

        private void callPenalty(int on, int kind, int server) {
            board.calls.add(on, kind, server);
            if (board.phase == 'p' && board.isControlledBy(Lineup.sideOf(on))) {
                board.halt();
            }
        }

        private void beginCalled() {
            Calls calls = board.calls;
            setSpare(calls);
            for (int i = 0; i < calls.count; i++) {
                beginPenalty(calls.on[i], calls.kind[i], calls.server[i]);
            }
            calls.count = 0;
            board.box.markRunning();
        }

        private void setSpare(Calls calls) {
            int minorsHome = calls.countMinors(0);
            int minorsAway = calls.countMinors(1);
            int majorsHome = calls.countMajors(0);
            int majorsAway = calls.countMajors(1);
            boolean isOneEach = minorsHome == 1 && minorsAway == 1 && majorsHome + majorsAway == 0;
            boolean doMinorsStay = has(EDITION_MINORS_STAY) && isOneEach && !board.box.hasCounting();
            for (int side = 0; side < 2; side++) {
                spareMajors[side] = Math.min(majorsHome, majorsAway);
                spareMinors[side] = doMinorsStay ? 0 : Math.min(minorsHome, minorsAway);
            }
        }

        private void beginPenalty(int on, int kind, int server) {
            int side = Lineup.sideOf(on);
            int player = lineup.playerAt[on];
            if (kind == 'X') {
                board.place[on] = Board.OUT;
            }
            // Of who is out nobody is in the box, but the penalties stay this one's and go one behind the other.
            if (board.place[server] != Board.OUT) {
                board.place[server] = Board.BOXED;
            }
            if (kind == 'x') {
                board.box.add(side, server, MISCONDUCT, 0, 0);
                board.tally.tenths[player] += MISCONDUCT;
            } else if (kind == 'M' || kind == 'X') {
                board.box.add(side, server, MAJOR, takeSpare(spareMajors, side), 0);
                board.tally.tenths[player] += MAJOR;
            } else {
                int minors = kind == '2' ? 2 : 1;
                for (int i = 0; i < minors; i++) {
                    board.box.add(side, server, MINOR, takeSpare(spareMinors, side), 1);
                    board.tally.tenths[player] += MINOR;
                }
            }
        }

        // Answers whether the penalty counts, 1 or 0: the earlier ones are those that cancel.
        private static int takeSpare(int[] spare, int side) {
            if (spare[side] > 0) {
                spare[side]--;
                return 0;
            }
            return 1;
        }

        private void makeGoal(int scorer, int first, int second) {
            beforeGoal.copyFrom(board);
            int side = Lineup.sideOf(lineup.slotOf[scorer]);
            int other = 1 - side;
            board.score[side]++;
            board.tally.goals[scorer]++;
            addAssist(first);
            addAssist(second);
            if (board.isShort(other)) {
                board.box.endRunningMinor(other);
            } else {
                addPlus(side);
            }
            board.calls.takeBackMinor(other);
            // As play stops, who served a minor that ended leaves the box for the bench.
            board.halt();
            if (board.period == 4) {
                board.phase = 'e';
            }
            board.goalSide = side;
        }

        private void addAssist(int player) {
            if (player != NONE) {
                board.tally.assists[player]++;
            }
        }

        private void addPlus(int side) {
            for (int slot = 0; slot < Lineup.SLOTS; slot++) {
                if (board.place[slot] >= 0 && lineup.isGoalie[slot] == 0) {
                    board.tally.plus[lineup.playerAt[slot]] += Lineup.sideOf(slot) == side ? 1 : -1;
                }
            }
        }

        private void refuseGoal(int kind, int side) {
            if (kind == 'k') {
                board.copyFrom(beforeGoal);
            } else {
                Calls calls = beforeGoal.calls;
                board.copyFrom(side == 0 ? beforeEntryHome : beforeEntryAway);
                for (int i = board.calls.count; i < calls.count; i++) {
                    if (judge.canCall(calls.on[i], calls.kind[i], calls.server[i])) {
                        callPenalty(calls.on[i], calls.kind[i], calls.server[i]);
                    }
                }
            }
            board.halt();
        }

        private void takeShot(int slot, int isGoal) {
            int side = Lineup.sideOf(slot);
            board.shotCount[side]++;
            board.shotGoals[side] += isGoal;
            board.shotsBy[slot]++;
            for (int winner = 0; winner < 2; winner++) {
                if (hasWonShots(winner)) {
                    board.score[winner]++;
                    board.phase = 'e';
                    return;
                }
            }
        }

        // With as many shots of both, 3 at least, none is left to take, so that unlike goals end it then, too.
        private boolean hasWonShots(int side) {
            int other = 1 - side;
            int otherLeft = Math.max(0, 3 - board.shotCount[other]);
            return board.shotGoals[side] > board.shotGoals[other] + otherLeft;
        }
    }
}
