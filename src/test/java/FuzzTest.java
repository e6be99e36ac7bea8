import java.util.ArrayList;
import java.util.Collections;
import java.util.List;
import java.util.Random;

/**
 * Promises 22 to 59 and 65: matches of many events, drawn from fixed seeds, told to Blueline and to Model alike.
 * An argument sets how many matches are played.
 */
public final class FuzzTest {
    private static final String KINDS = "fffffbttttttggggguuuuussscccrrhhhleeppppzGGGGvSSSS";

    private static final int[] TOLD = new int[128];

    private final Random random;
    private final Blueline hall = new Blueline();
    private final List<List<Integer>> lineups = new ArrayList<>();
    private final List<Integer> goalies = new ArrayList<>();
    private Model model;
    private String trace = "";

    private FuzzTest(int seed) {
        random = new Random(seed);
    }

    public static void main(String[] args) {
        int matches = args.length > 0 ? Integer.parseInt(args[0]) : 400;
        for (int seed = 0; seed < matches; seed++) {
            new FuzzTest(seed).play(seed);
        }
        for (char kind : "ftguscrhlepzbGvS".toCharArray()) {
            Hall.due("events of the kind " + kind + " are drawn often enough", TOLD[kind] >= matches / 10, true);
        }
        Hall.end("FuzzTest");
    }

    private int below(int bound) {
        return random.nextInt(bound);
    }

    private void play(int seed) {
        begin(below(32));
        for (int step = 0; step < 240; step++) {
            int[] event = draw();
            for (int tries = 0; tries < 12 && below(8) > 0 && model.refusal(event) != null; tries++) {
                event = draw();
            }
            tell(event);
            if (below(25) == 0) {
                lookBack();
            }
            if (!compare(seed)) {
                return;
            }
        }
    }

    private void begin(int edition) {
        hall.club();
        hall.club();
        for (int side = 0; side < 2; side++) {
            List<Integer> players = new ArrayList<>();
            int size = 6 + below(7);
            for (int i = 0; i < size; i++) {
                boolean isGoalie = i == 0 || i == 1 && size > 6 && below(2) == 0;
                int player = hall.player(isGoalie, 1);
                hall.sign(player, side);
                players.add(player);
                if (isGoalie) {
                    goalies.add(player);
                }
            }
            Collections.shuffle(players, random);
            lineups.add(players);
        }
        hall.player(false, 1);
        hall.match(0, 1, edition);
        for (int side = 0; side < 2; side++) {
            for (int player : lineups.get(side)) {
                hall.dress(side, player);
            }
        }
        hall.begin();
        model = new Model(lineups, goalies, edition);
        trace = "edition " + edition + " " + lineups + " goalies " + goalies + ":";
    }

    private int anyPlayer() {
        return below(lineups.get(0).size() + lineups.get(1).size() + (below(20) == 0 ? 1 : 0));
    }

    private int playerOf(int side) {
        return side < 0 ? anyPlayer() : lineups.get(side).get(below(lineups.get(side).size()));
    }

    /** Every other event is drawn so that it leads to goals and reviews. */
    private int[] draw() {
        boolean isBehindGoal = !model.events.isEmpty() && model.events.get(model.events.size() - 1)[0] == 'G';
        if (isBehindGoal && below(3) > 0) {
            return new int[] {'v', below(3) == 0 ? 'k' : 'o', 0, 0};
        }
        if (model.now.phase != 'p' || below(2) == 0) {
            return drawAny(KINDS.charAt(below(KINDS.length())));
        }
        int side = model.now.having;
        if (side < 0) {
            return below(3) == 0 ? drawAny('G') : drawAny('u');
        }
        if (model.now.puck != Model.farEnd(side)) {
            return new int[] {below(4) == 0 ? 's' : 'c', below(2) == 0 ? 2 : Model.farEnd(side), 0, 0};
        }
        return drawAny("GGGpptuuc".charAt(below(9)));
    }

    private int[] drawAny(char kind) {
        int a = 0;
        int b = 0;
        int c = 0;
        switch (kind) {
            case 'f': case 's': case 'c':
                a = below(4);
                break;
            case 't':
                int[] tenths = {1, 100, 600, 1200, 3000, 1 + below(3000), model.now.clock, 6000};
                a = Math.max(1, tenths[below(8)]);
                break;
            case 'g':
                a = anyPlayer();
                b = below(2) == 0 ? model.now.puck : below(4);
                break;
            case 'r':
                a = below(2);
                break;
            case 'h':
                a = anyPlayer();
                b = playerOf(model.sideOf(a));
                break;
            case 'p':
                a = anyPlayer();
                b = "mmm22MxX".charAt(below(8));
                c = below(2) == 0 ? a : playerOf(model.sideOf(a));
                break;
            case 'G':
                a = anyPlayer();
                b = below(3) == 0 ? -1 : playerOf(model.sideOf(a));
                c = b == -1 || below(2) == 0 ? -1 : playerOf(model.sideOf(a));
                return a == b || a == c || b == c && b != -1 ? drawAny('G') : new int[] {kind, a, b, c};
            case 'v':
                a = below(3) == 0 ? 'k' : 'o';
                break;
            default:
                a = kind == 'b' || kind == 'z' ? 0 : anyPlayer();
                b = kind == 'S' ? below(2) : 0;
        }
        return new int[] {kind, a, b, c};
    }

    private char call(int[] event) {
        int a = event[1];
        int b = event[2];
        int c = event[3];
        switch ((char) event[0]) {
            case 'f': return hall.faceOff(a);
            case 'b': return hall.sit();
            case 't': return hall.run(a);
            case 'g': return hall.go(a, b);
            case 'u': return hall.touch(a);
            case 's': return hall.send(a);
            case 'c': return hall.carry(a);
            case 'r': return hall.race(a);
            case 'h': return hall.change(a, b);
            case 'l': return hall.leave(a);
            case 'e': return hall.enter(a);
            case 'p': return hall.penalty(a, (char) b, c);
            case 'z': return hall.stop();
            case 'G': return hall.goal(a, b, c);
            case 'v': return hall.review((char) a);
            default: return hall.shoot(a, b == 1);
        }
    }

    private void tell(int[] event) {
        trace += " " + (char) event[0] + event[1] + "," + event[2] + "," + event[3];
        String refusal = model.refusal(event);
        String before = Hall.picture(hall);
        try {
            char phase = call(event);
            Hall.due(trace + " is told", "told", refusal == null ? "told" : refusal);
            if (refusal == null && model.events.size() < 200) {
                model.tell(event);
                TOLD[event[0]]++;
                Hall.due(trace + " phase", phase, model.now.phase);
            }
        } catch (UnsupportedOperationException e) {
            Hall.due(trace + " why", "" + hall.why() + hall.whyNumber(), refusal);
            Hall.due(trace + " changes nothing", Hall.picture(hall), before);
        } catch (IllegalStateException e) {
            Hall.due(trace + " events", refusal == null ? model.events.size() : -1, 200);
            Hall.due(trace + " changes nothing", Hall.picture(hall), before);
        }
    }

    private void lookBack() {
        if (model.events.isEmpty()) {
            return;
        }
        int index = below(model.events.size());
        int edition = below(32);
        switch (below(3)) {
            case 0:
                List<int[]> events = new ArrayList<>(model.events);
                events.remove(index);
                model = model.toldAnew(events, model.edition);
                trace += " strike" + index;
                Hall.due(trace, hall.strike(index), model.events.size());
                break;
            case 1:
                Model again = model.toldAnew(model.events, edition);
                Hall.due(trace + " again " + edition, hall.again(edition, 0), again.now.score[0]);
                Hall.due(trace + " again " + edition, hall.again(edition, 1), again.now.score[1]);
                break;
            default:
                for (int i = 0; i < model.events.size(); i++) {
                    if (model.events.get(i)[0] == 'G' && below(2) == 0) {
                        amend(i);
                    }
                }
        }
    }

    private void amend(int index) {
        int[] goal = model.events.get(index);
        int first = playerOf(model.sideOf(goal[1]));
        if (first == goal[1]) {
            first = -1;
        }
        List<int[]> events = new ArrayList<>(model.events);
        events.set(index, new int[] {'G', goal[1], first, -1});
        Model amended = model.toldAnew(events, model.edition);
        trace += " amend" + index + "," + first;
        try {
            Hall.due(trace, hall.amend(index, first, -1), amended.events.size());
            Hall.due(trace + " keeps all", amended.events.size(), model.events.size());
            model = amended;
        } catch (UnsupportedOperationException e) {
            Hall.due(trace + " drops the goal", amended.events.size() < model.events.size(), true);
        }
    }

    private boolean compare(int seed) {
        String got = pictureOfHall();
        String want = pictureOfModel();
        if (!got.equals(want) || !hall.isSound()) {
            Hall.due("seed " + seed + " sound " + hall.isSound() + " " + trace, got, want);
            return false;
        }
        return true;
    }

    private String pictureOfHall() {
        StringBuilder text = new StringBuilder();
        text.append(hall.phase()).append(hall.period()).append(',').append(hall.clock()).append(',');
        text.append(hall.puck()).append(hall.having(false)).append(hall.having(true)).append(hall.events());
        for (int side = 0; side < 2; side++) {
            text.append(" S").append(hall.score(side)).append(hall.isOffside(side)).append(hall.may(side));
            text.append(hall.running(side, true)).append(hall.running(side, false)).append(hall.waiting(side));
            text.append(hall.shots(side, false)).append(hall.shots(side, true));
        }
        for (int player = 0; player <= lineups.get(0).size() + lineups.get(1).size(); player++) {
            text.append(" P").append(hall.placeOf(player)).append(',').append(hall.leftOf(player));
            for (char what : "ga+p".toCharArray()) {
                text.append(',').append(hall.tally(player, what));
            }
        }
        for (int index = 0; index < hall.events(); index++) {
            text.append(hall.eventAt(index));
        }
        return text.toString();
    }

    private String pictureOfModel() {
        Model.State now = model.now;
        StringBuilder text = new StringBuilder();
        text.append(now.phase).append(now.period).append(',').append(now.clock).append(',');
        text.append(now.puck).append(now.having).append(now.sent).append(model.events.size());
        for (int side = 0; side < 2; side++) {
            text.append(" S").append(now.score[side]).append(now.offside[side]).append(model.may(side));
            text.append(model.running(side, true)).append(model.running(side, false)).append(model.waiting(side));
            text.append(now.shots[side]).append(now.shotGoals[side]);
        }
        for (int player = 0; player <= lineups.get(0).size() + lineups.get(1).size(); player++) {
            text.append(" P").append(now.place[player]).append(',').append(model.leftOf(player));
            for (int what = 0; what < 4; what++) {
                text.append(',').append(now.tally[what][player]);
            }
        }
        for (int[] event : model.events) {
            text.append((char) event[0]);
        }
        return text.toString();
    }
}
