/** Promises 22 to 32, 34 and 39 to 47: face-offs, tenths, places, the puck, offsides, icings, who comes and goes. */
public final class PlayTest {
    public static void main(String[] args) {
        phasesOfEvents();
        faceOffs();
        periods();
        going();
        touching();
        sending();
        carrying();
        entryIsOffside();
        offsideWaits();
        offsideEnds();
        offsideOfAway();
        icings();
        icingWhenShort();
        races();
        changes();
        leaving();
        entering();
        enteringWhilePlaying();
        surplus();
        stops();
        overtimeSkaters();
        twoHundredEvents();
        Hall.end("PlayTest");
    }

    // Promises 22 to 37: what is possible in which phase.
    private static void phasesOfEvents() {
        Blueline hall = Hall.begun(2 + 8 + 16);
        refuseAll(hall, "stopped", "trgusczGvS");
        hall.faceOff(1);
        refuseAll(hall, "playing", "fbrvS");
        hall.touch(2);
        hall.send(3);
        refuseAll(hall, "racing", "fbtguschlepzGvS");
        hall.race(1);
        Hall.endThirdPeriod(hall);
        Hall.endPeriod(hall);
        Hall.due("shots", hall.phase(), 'o');
        refuseAll(hall, "shots", "fbtguscrhlepzGv");
        for (int shot = 0; shot < 6; shot++) {
            hall.shoot(shot % 2 * 10 + 2 + shot / 2, shot == 0);
        }
        Hall.due("ended", hall.phase(), 'e');
        refuseAll(hall, "ended", "fbtguscrhlepzGvS");
    }

    private static void refuseAll(Blueline hall, String what, String kinds) {
        for (char kind : kinds.toCharArray()) {
            Hall.impossible(hall, what + " " + kind, 's', hall.phase(), () -> tell(hall, kind));
        }
    }

    /** Tells an event whose players would be refused, too, if the phase were not looked at first. */
    private static void tell(Blueline hall, char kind) {
        switch (kind) {
            case 'f': hall.faceOff(0); break;
            case 'b': hall.sit(); break;
            case 't': hall.run(12000); break;
            case 'r': hall.race(0); break;
            case 'g': hall.go(9, 0); break;
            case 'u': hall.touch(9); break;
            case 's': hall.send(0); break;
            case 'c': hall.carry(0); break;
            case 'h': hall.change(9, 19); break;
            case 'l': hall.leave(9); break;
            case 'e': hall.enter(9); break;
            case 'p': hall.penalty(9, 'm', 9); break;
            case 'z': hall.stop(); break;
            case 'G': hall.goal(9, 19, -1); break;
            case 'v': hall.review('o'); break;
            default: hall.shoot(9, true);
        }
    }

    // Promise 23.
    private static void faceOffs() {
        Blueline hall = Hall.begun(0);
        Hall.due("faceOff", hall.faceOff(3), 'p');
        Hall.due("puck", hall.puck(), 3);
        for (int player : new int[] {0, 2, 3, 4, 5, 6, 10, 12, 13, 14, 15, 16}) {
            Hall.due("at the place " + player, hall.placeOf(player), 3);
        }
        Hall.due("on the bench", hall.placeOf(7), -1);
        hall.touch(2);
        hall.carry(2);
        hall.stop();
        Hall.due("stays where it was", hall.placeOf(2), 2);
        Hall.due("puck stays where it was", hall.puck(), 2);
        hall.faceOff(0);
        Hall.due("goes to the next place", hall.placeOf(2), 0);
        Hall.due("nobody has the puck", hall.having(false), -1);
        Hall.impossible(hall, "nobody has it to carry", 'h', -1, () -> hall.carry(1));
        Hall.due("sit in a stop", sitIn(Hall.begun(0)), 's');
    }

    private static char sitIn(Blueline hall) {
        return hall.sit();
    }

    // Promises 24, 40 and 41.
    private static void periods() {
        Blueline hall = Hall.playing(0, 1);
        Hall.due("run", hall.run(1), 'p');
        Hall.due("clock", hall.clock(), 11999);
        Hall.impossible(hall, "too many tenths", 't', 11999, () -> hall.run(12000));
        Hall.due("up to the end", hall.run(11999), 's');
        Hall.due("period 2", hall.period(), 2);
        Hall.due("clock of the period 2", hall.clock(), 12000);
        Hall.endPeriod(hall);
        Hall.due("period 3", hall.period(), 3);
        Hall.endPeriod(hall);
        Hall.due("alike without more by the edition", hall.phase(), 'e');
        Hall.due("period stays 3", hall.period(), 3);
        Hall.due("clock stays 0", hall.clock(), 0);
        Hall.due("tenths only", endOf(8, false), "s4,3000");
        Hall.due("overtime only, alike", endOf(8, true), "e4,0");
        Hall.due("shots only", endOf(16, false), "o3,0");
        Hall.due("both", endOf(24, false), "s4,3000");
        Hall.due("both, alike", endOf(24, true), "o4,0");
        Blueline won = Hall.begun(24);
        Hall.scoreBy(won, 2);
        Hall.endThirdPeriod(won);
        Hall.due("with a winner", won.phase(), 'e');
        Blueline over = Hall.begun(8);
        Hall.endThirdPeriod(over);
        over.faceOff(1);
        Hall.impossible(over, "more than the overtime has", 't', 3000, () -> over.run(3001));
    }

    private static String endOf(int edition, boolean isWithOvertime) {
        Blueline hall = Hall.begun(edition);
        Hall.endThirdPeriod(hall);
        if (isWithOvertime) {
            Hall.endPeriod(hall);
        }
        return "" + hall.phase() + hall.period() + "," + hall.clock();
    }

    // Promises 25 and 43.
    private static void going() {
        Blueline hall = Hall.playing(0, 1);
        Hall.due("go", hall.go(2, 3), 'p');
        Hall.due("is there", hall.placeOf(2), 3);
        Hall.due("a goalie goes", hall.go(10, 0), 'p');
        Hall.due("to the same place", hall.go(10, 0), 'p');
        Hall.impossible(hall, "on the bench", 'i', 7, () -> hall.go(7, 0));
        Hall.impossible(hall, "in no line-up", 'i', 9, () -> hall.go(9, 0));
    }

    // Promises 26 and 45.
    private static void touching() {
        Blueline hall = Hall.playing(0, 1);
        Hall.impossible(hall, "on the bench", 'i', 7, () -> hall.touch(7));
        Hall.due("touch", hall.touch(2), 'p');
        Hall.due("home has it", hall.having(false), 0);
        Hall.due("sent by none", hall.having(true), -1);
        hall.touch(12);
        Hall.due("away has it", hall.having(false), 1);
        hall.go(2, 0);
        Hall.impossible(hall, "elsewhere", 'q', 1, () -> hall.touch(2));
        Hall.due("a goalie touches", hall.touch(0), 'p');
        Hall.due("home has it again", hall.having(false), 0);
    }

    // Promises 27 and 45.
    private static void sending() {
        Blueline hall = Hall.playing(0, 1);
        Hall.impossible(hall, "nobody has it", 'h', -1, () -> hall.send(2));
        hall.touch(12);
        Hall.due("send", hall.send(2), 'p');
        Hall.due("puck", hall.puck(), 2);
        Hall.due("nobody has it then", hall.having(false), -1);
        Hall.due("away sent it", hall.having(true), 1);
        Hall.due("who sent stays", hall.placeOf(12), 1);
        Hall.impossible(hall, "nobody has it to send", 'h', -1, () -> hall.send(2));
        Hall.impossible(hall, "nobody has it to carry", 'h', -1, () -> hall.carry(2));
        hall.go(2, 2);
        hall.touch(2);
        Hall.due("to the same place", hall.send(2), 'p');
        Hall.due("home sent it", hall.having(true), 0);
        hall.stop();
        Hall.due("sent by none behind a stop", hall.having(true), -1);
        Blueline touched = Hall.playing(0, 1);
        touched.touch(12);
        touched.send(1);
        touched.touch(2);
        Hall.due("home has it", touched.having(false), 0);
        Hall.due("away still sent it last", touched.having(true), 1);
        touched.carry(1);
        Hall.due("carried, it is sent by none", touched.having(true), -1);
        touched.send(1);
        Hall.due("home sent it last", touched.having(true), 0);
    }

    // Promise 28.
    private static void carrying() {
        Blueline hall = Hall.playing(0, 1);
        hall.touch(2);
        hall.send(1);
        hall.touch(2);
        Hall.due("carry", hall.carry(2), 'p');
        Hall.due("puck", hall.puck(), 2);
        Hall.due("goes along", hall.placeOf(2), 2);
        Hall.due("still has it", hall.having(false), 0);
        Hall.due("did not send it", hall.having(true), -1);
        hall.go(2, 1);
        Hall.impossible(hall, "away from the puck", 'q', 2, () -> hall.carry(3));
        hall.leave(2);
        Hall.impossible(hall, "left the ice", 'i', 2, () -> hall.carry(3));
        Hall.due("it can still be sent", hall.send(1), 'p');
        Hall.impossible(hall, "sent away", 'h', -1, () -> hall.carry(3));
        Blueline away = Hall.playing(0, 1);
        away.touch(12);
        away.carry(0);
        away.carry(0);
        Hall.due("away carries", away.placeOf(12), 0);
    }

    // Promises 27, 28 and 46: an offside stops.
    private static void entryIsOffside() {
        Blueline sent = Hall.playing(0, 2);
        sent.touch(2);
        sent.go(3, 3);
        Hall.due("sent to a skater", sent.send(3), 's');
        Hall.due("puck is there", sent.puck(), 3);
        Hall.due("sent by none", sent.having(true), -1);
        Blueline carried = Hall.playing(0, 2);
        carried.touch(2);
        carried.go(3, 3);
        Hall.due("carried to a skater", carried.carry(3), 's');
        Hall.due("who carried is there", carried.placeOf(2), 3);
        Hall.due("none has it", carried.having(false), -1);
        Blueline own = Hall.playing(0, 2);
        own.touch(2);
        own.go(2, 3);
        Hall.due("who touched last may be there", own.send(3), 'p');
        Blueline goalie = Hall.playing(0, 2);
        goalie.touch(2);
        goalie.go(0, 3);
        goalie.go(12, 3);
        Hall.due("goalies and others may be there", goalie.send(3), 'p');
        Blueline same = Hall.playing(0, 3);
        same.touch(2);
        Hall.due("no entry from the same place", same.send(3), 'p');
        Blueline away = Hall.playing(0, 1);
        away.touch(12);
        away.go(13, 0);
        Hall.due("the far end of the side 1 is 0", away.send(0), 's');
        Blueline back = Hall.playing(0, 1);
        back.touch(2);
        Hall.due("to the own end with all there", back.send(0), 'p');
    }

    // Promise 46: by the edition 1 an offside waits.
    private static void offsideWaits() {
        Blueline hall = Hall.playing(1, 2);
        hall.touch(2);
        hall.go(3, 3);
        Hall.due("offside waits", hall.carry(3), 'p');
        Hall.due("offside", hall.isOffside(0), true);
        Hall.due("the other side is not", hall.isOffside(1), false);
        Hall.impossible(hall, "no goal while offside", 'o', 0, () -> hall.goal(2, -1, -1));
        hall.go(12, 3);
        Hall.due("the other side may touch", hall.touch(12), 'p');
        Hall.due("still offside", hall.isOffside(0), true);
        Hall.due("a touch of the side stops", hall.touch(3), 's');
        Hall.due("no offside behind a stop", hall.isOffside(0), false);
        Blueline waits = Hall.playing(1, 1);
        waits.touch(2);
        waits.go(3, 3);
        Hall.due("an offside is no icing", waits.send(3), 'p');
        Hall.due("offside by sending", waits.isOffside(0), true);
    }

    private static Blueline offside() {
        Blueline hall = Hall.playing(1, 2);
        hall.touch(2);
        hall.go(3, 3);
        hall.carry(3);
        return hall;
    }

    private static void offsideEnds() {
        Blueline gone = offside();
        gone.go(3, 2);
        Hall.due("who carried is still there", gone.isOffside(0), true);
        gone.go(2, 2);
        Hall.due("none is there", gone.isOffside(0), false);
        gone.go(2, 3);
        Hall.due("stays ended", gone.isOffside(0), false);
        Hall.due("may touch then", gone.touch(2), 'p');
        Blueline left = offside();
        left.go(0, 3);
        left.leave(3);
        left.change(2, 7);
        Hall.due("who changed is there", left.isOffside(0), true);
        left.leave(7);
        Hall.due("a goalie does not count", left.isOffside(0), false);
        Blueline puck = offside();
        puck.send(2);
        Hall.due("the puck is not there", puck.isOffside(0), false);
        Blueline stopped = offside();
        stopped.stop();
        Hall.due("stopped", stopped.isOffside(0), false);
    }

    private static Blueline awayOffside() {
        Blueline hall = Hall.playing(1, 1);
        hall.touch(12);
        hall.go(13, 0);
        hall.carry(0);
        Hall.due("away is offside", hall.isOffside(1), true);
        Hall.due("home is not", hall.isOffside(0), false);
        return hall;
    }

    // Promise 46: the side 1.
    private static void offsideOfAway() {
        Blueline gone = awayOffside();
        gone.leave(13);
        Hall.due("who carried is still there", gone.isOffside(1), true);
        gone.go(12, 1);
        Hall.due("none is there", gone.isOffside(1), false);
        Blueline stopped = awayOffside();
        stopped.stop();
        Hall.due("stopped", stopped.isOffside(1), false);
        Blueline puck = awayOffside();
        puck.carry(1);
        Hall.due("the puck is not there", puck.isOffside(1), false);
        puck.go(12, 1);
        Hall.due("may touch then", puck.touch(12), 'p');
        Blueline touched = awayOffside();
        Hall.impossible(touched, "no goal", 'o', 1, () -> touched.goal(13, -1, -1));
        Hall.due("a touch stops", touched.touch(13), 's');
        Hall.due("not offside then", touched.isOffside(1), false);
        Blueline ended = awayOffside();
        ended.run(12000);
        Hall.due("not behind the period", ended.isOffside(1), false);
    }

    // Promise 27: an icing.
    private static void icings() {
        for (int from = 0; from < 4; from++) {
            Blueline home = Hall.playing(0, from);
            home.touch(2);
            int start = from;
            home.go(2, 0);
            Hall.due("icing of home from " + start, home.send(3), from < 2 ? 's' : 'p');
            Blueline away = Hall.playing(0, from);
            away.touch(12);
            away.go(12, 3);
            Hall.due("icing of away from " + start, away.send(0), from > 1 ? 's' : 'p');
        }
        Blueline carried = Hall.playing(0, 1);
        carried.touch(2);
        Hall.due("carrying is no icing", carried.carry(3), 'p');
        Blueline elsewhere = Hall.playing(0, 0);
        elsewhere.touch(2);
        Hall.due("not to the far end", elsewhere.send(2), 'p');
    }

    private static void icingWhenShort() {
        Blueline hall = Hall.begun(0);
        hall.penalty(4, 'm', 4);
        hall.faceOff(1);
        hall.touch(2);
        Hall.due("a short side may", hall.send(3), 'p');
        hall.stop();
        hall.faceOff(2);
        hall.touch(12);
        Hall.due("the other one may not", hall.send(0), 's');
        hall.penalty(14, 'm', 14);
        hall.faceOff(1);
        hall.touch(2);
        Hall.due("as many of both are not short", hall.send(3), 's');
        Blueline misconduct = Hall.begun(0);
        misconduct.penalty(4, 'x', 4);
        misconduct.faceOff(1);
        misconduct.touch(2);
        Hall.due("a misconduct does not count", misconduct.send(3), 's');
    }

    // Promise 29.
    private static void races() {
        Blueline hall = Hall.playing(2, 1);
        hall.touch(2);
        Hall.due("racing", hall.send(3), 'r');
        Hall.due("the puck is there", hall.puck(), 3);
        Hall.due("sent", hall.having(true), 0);
        Hall.due("who sent came first", hall.race(0), 'p');
        Hall.due("still sent", hall.having(true), 0);
        Hall.due("goes on", hall.run(5), 'p');
        hall.stop();
        hall.faceOff(2);
        hall.touch(12);
        hall.send(0);
        Hall.due("the other one came first", hall.race(0), 's');
        Hall.due("sent by none", hall.having(true), -1);
        Blueline away = Hall.playing(2, 2);
        away.touch(12);
        away.send(0);
        Hall.due("away came first", away.race(1), 'p');
        Blueline off = Hall.playing(2, 1);
        off.touch(2);
        off.go(3, 3);
        Hall.due("an offside is not raced for", off.send(3), 's');
    }

    // Promise 30.
    private static void changes() {
        Blueline hall = Hall.playing(0, 2);
        hall.go(2, 0);
        Hall.due("change", hall.change(2, 7), 'p');
        Hall.due("to the bench", hall.placeOf(2), -1);
        Hall.due("to the same place", hall.placeOf(7), 0);
        Hall.impossible(hall, "not on the ice", 'i', 2, () -> hall.change(2, 8));
        Hall.impossible(hall, "both not where they should be", 'i', 2, () -> hall.change(2, 3));
        Hall.impossible(hall, "not on the bench", 'b', 4, () -> hall.change(3, 4));
        Hall.impossible(hall, "for itself", 'b', 3, () -> hall.change(3, 3));
        Hall.impossible(hall, "of the other bench", 'b', 17, () -> hall.change(3, 17));
        Hall.impossible(hall, "in no line-up", 'b', 9, () -> hall.change(3, 9));
        Hall.impossible(hall, "of the other bench, a goalie", 'b', 11, () -> hall.change(3, 11));
        Hall.impossible(hall, "a goalie for a skater", 'g', 1, () -> hall.change(3, 1));
        Hall.impossible(hall, "a skater for a goalie", 'g', 8, () -> hall.change(0, 8));
        Hall.due("goalies", hall.change(0, 1), 'p');
        Hall.due("the goalie is there", hall.placeOf(1), 2);
        hall.stop();
        Hall.due("while stopped", hall.change(7, 2), 's');
        Hall.due("while stopped, there", hall.placeOf(2), 0);
    }

    // Promises 31 and 47.
    private static void leaving() {
        Blueline hall = Hall.playing(0, 2);
        Hall.due("leave", hall.leave(2), 'p');
        Hall.due("on the bench", hall.placeOf(2), -1);
        Hall.impossible(hall, "not on the ice", 'i', 2, () -> hall.leave(2));
        Hall.due("a goalie leaves", hall.leave(10), 'p');
        Hall.due("one more may", hall.may(1), 6);
        Hall.due("of the other side not", hall.may(0), 5);
        hall.stop();
        Hall.due("while stopped", hall.leave(3), 's');
    }

    // Promises 32 and 47.
    private static void entering() {
        Blueline hall = Hall.begun(0);
        Hall.impossible(hall, "a sixth skater", 'n', 5, () -> hall.enter(7));
        Hall.impossible(hall, "on the ice already", 'b', 2, () -> hall.enter(2));
        Hall.impossible(hall, "in no line-up", 'b', 9, () -> hall.enter(9));
        Hall.impossible(hall, "a second goalie", 'g', 1, () -> hall.enter(1));
        Hall.impossible(hall, "a goalie on the ice already", 'b', 0, () -> hall.enter(0));
        hall.leave(0);
        Hall.due("a sixth skater for the goalie", hall.enter(7), 's');
        Hall.due("at the gate", hall.placeOf(7), 1);
        Hall.impossible(hall, "a seventh skater", 'n', 6, () -> hall.enter(8));
        hall.leave(7);
        Hall.due("a goalie", hall.enter(1), 's');
        Hall.due("the goalie at the gate", hall.placeOf(1), 1);
        hall.leave(12);
        hall.enter(17);
        Hall.due("at the gate of away", hall.placeOf(17), 2);
        Hall.impossible(hall, "a second goalie of away", 'g', 11, () -> hall.enter(11));
    }

    // Promise 32: too many while playing.
    private static void enteringWhilePlaying() {
        Blueline hall = Hall.playing(0, 2);
        hall.leave(2);
        Hall.due("as many as may", hall.enter(7), 'p');
        Hall.due("at the gate", hall.placeOf(7), 1);
        Hall.due("one too many", hall.enter(8), 's');
        Hall.due("a minor waits", hall.waiting(0), 1);
        Hall.due("the last of the line-up is off", hall.placeOf(8), -1);
        Hall.due("an event", hall.events(), 4);
        hall.sit();
        Hall.due("who entered serves", hall.placeOf(8), -2);
        Hall.due("a minor", hall.leftOf(8), 1200);
        Hall.due("tally of the minor", hall.tally(8, 'p'), 1200);
        Blueline first = Hall.playing(0, 2);
        first.change(2, 8);
        Hall.due("one too many again", first.enter(2), 's');
        Hall.due("who entered stays on the ice", first.placeOf(2), 1);
        Hall.due("the last one goes", first.placeOf(8), -1);
        Blueline goalie = Hall.playing(0, 2);
        goalie.leave(0);
        goalie.enter(7);
        Hall.due("never on a goalie", goalie.enter(0), 'p');
        Hall.due("no penalty waits", goalie.waiting(0), 0);
        Hall.due("may be one too many now", goalie.may(0), 5);
        goalie.stop();
        Hall.due("the stop sends the last one off", goalie.placeOf(7), -1);
    }

    // "As a match is stopped": those who come last in the line-up go to the bench.
    private static void surplus() {
        Blueline hall = Hall.playing(0, 2);
        hall.leave(0);
        hall.enter(7);
        hall.change(2, 8);
        hall.enter(1);
        hall.stop();
        Hall.due("last in the line-up", hall.placeOf(8), -1);
        Hall.due("not the last one", hall.placeOf(7), 1);
        Blueline stopped = Hall.begun(0);
        stopped.leave(0);
        stopped.enter(7);
        stopped.enter(0);
        Hall.due("a goalie enters while stopped", stopped.placeOf(7), 1);
        stopped.faceOff(1);
        Hall.due("behind the face-off no more than may", stopped.placeOf(7), -1);
    }

    // Promise 34.
    private static void stops() {
        Blueline hall = Hall.playing(0, 2);
        hall.touch(2);
        Hall.due("stop", hall.stop(), 's');
        Hall.due("none has it", hall.having(false), -1);
        Hall.due("the clock stays", hall.clock(), 12000);
        hall.faceOff(1);
        hall.touch(12);
        hall.send(1);
        hall.stop();
        Hall.due("none sent it", hall.having(true), -1);
    }

    // Promise 47: in the period 4.
    private static void overtimeSkaters() {
        Blueline hall = Hall.begun(8);
        Hall.endThirdPeriod(hall);
        Hall.due("may in overtime", hall.may(0), 3);
        for (int player = 2; player < 9; player++) {
            Hall.due("three are on the ice, home", hall.placeOf(player) >= 0, player < 5);
            Hall.due("three are on the ice, away", hall.placeOf(10 + player) >= 0, player < 5);
        }
        Hall.due("goalies stay", hall.placeOf(0) >= 0 && hall.placeOf(10) >= 0, true);
        hall.penalty(2, 'm', 2);
        hall.sit();
        Hall.due("a penalty of its own", hall.may(0), 3);
        Hall.due("one of the other side", hall.may(1), 4);
        Hall.due("a fourth skater", hall.enter(15), 's');
        Hall.impossible(hall, "a fifth skater", 'n', 4, () -> hall.enter(16));
        hall.leave(10);
        Hall.due("and without a goalie", hall.may(1), 5);
        hall.penalty(3, 'm', 3);
        hall.penalty(4, 'm', 4);
        hall.sit();
        Hall.due("two of three run for the other side", hall.may(1), 6);
        hall.leave(0);
        Hall.due("without a goalie, three of its own", hall.may(0), 4);
        hall.enter(11);
        Hall.due("with a goalie again", hall.may(1), 5);
    }

    // Promises 22 to 37: at most 200 events.
    private static void twoHundredEvents() {
        Blueline hall = Hall.playing(0, 1);
        for (int event = 1; event < 200; event++) {
            hall.go(2, event % 2);
        }
        Hall.due("200 events", hall.events(), 200);
        Hall.refused(hall, "a 201st", IllegalStateException.class, () -> hall.go(2, 0));
        Hall.refused(hall, "a 201st stop", IllegalStateException.class, hall::stop);
        Hall.impossible(hall, "not possible goes first", 's', 'p', () -> hall.faceOff(1));
        Hall.due("strike", hall.strike(5), 199);
        Hall.due("room again", hall.go(2, 0), 'p');
        Hall.due("200 again", hall.events(), 200);
    }
}
