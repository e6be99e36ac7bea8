import java.util.Objects;

/** What the tests share: checks of answers and exceptions, and halls that are made ready. */
final class Hall {
    interface Call {
        void make();
    }

    private static int wrong = 0;

    private Hall() {
    }

    static void due(String what, Object got, Object want) {
        if (!Objects.equals(got, want)) {
            wrong++;
            System.out.println(what + ": answered " + got + ", due is " + want);
        }
    }

    static void due(String what, int got, int want) {
        due(what, (Object) got, (Object) want);
    }

    static void due(String what, char got, char want) {
        due(what, (Object) got, (Object) want);
    }

    /** The call throws exactly this, and the hall stands as before. */
    static void refused(Blueline hall, String what, Class<?> want, Call call) {
        String before = picture(hall);
        Class<?> got = thrownBy(call);
        due(what + " throws", got, want);
        due(what + " changes nothing", picture(hall), before);
    }

    /** The event is refused as not possible, and why is told so. */
    static void impossible(Blueline hall, String what, char letter, int number, Call call) {
        refused(hall, what, UnsupportedOperationException.class, call);
        due(what + " why", hall.why(), letter);
        due(what + " whyNumber", hall.whyNumber(), number);
    }

    static Class<?> thrownBy(Call call) {
        try {
            call.make();
        } catch (RuntimeException e) {
            return e.getClass();
        }
        return null;
    }

    static void end(String test) {
        System.out.println(test + ": " + (wrong == 0 ? "all answers are as due" : wrong + " wrong answers"));
        System.exit(wrong == 0 ? 0 : 1);
    }

    /** All that a hall answers without being changed, as a text. */
    static String picture(Blueline hall) {
        StringBuilder text = new StringBuilder();
        text.append(hall.phase()).append(hall.checksum()).append(hall.isSound());
        for (int club = 0; thrownBy(clubCall(hall, club)) == null; club++) {
            text.append(" C").append(hall.payroll(club)).append(',').append(hall.charge(club));
            text.append(',').append(hall.points(club)).append(',').append(hall.ranked(club));
        }
        for (int player = 0; player < 60 && thrownBy(playerCall(hall, player)) == null; player++) {
            addPlayer(text, hall, player);
        }
        if (hall.phase() != '-') {
            addMatch(text, hall);
        }
        return text.toString();
    }

    private static Call clubCall(Blueline hall, int club) {
        return () -> hall.payroll(club);
    }

    private static Call playerCall(Blueline hall, int player) {
        return () -> hall.banOf(player);
    }

    private static void addPlayer(StringBuilder text, Blueline hall, int player) {
        text.append(" P").append(hall.statusOf(player)).append(hall.clubOf(player)).append(',');
        text.append(hall.banOf(player));
        for (char what : "ga+p".toCharArray()) {
            text.append(',').append(hall.tally(player, what));
        }
        if (hall.phase() != '-') {
            text.append(',').append(hall.placeOf(player)).append(',').append(hall.leftOf(player));
        }
    }

    private static void addMatch(StringBuilder text, Blueline hall) {
        text.append(" M").append(hall.period()).append(',').append(hall.clock()).append(',').append(hall.puck());
        text.append(',').append(hall.having(false)).append(',').append(hall.having(true));
        for (int side = 0; side < 2; side++) {
            text.append(" S").append(hall.score(side)).append(hall.isOffside(side)).append(hall.may(side));
            text.append(hall.running(side, true)).append(hall.running(side, false)).append(hall.waiting(side));
            text.append(hall.shots(side, true)).append(hall.shots(side, false));
        }
        text.append(" E");
        for (int index = 0; index < hall.events(); index++) {
            text.append(hall.eventAt(index));
        }
    }

    /**
     * Two clubs of 9 players each, of hits 100 and more: the club 0 has the players 0 to 8, the club 1 the
     * players 10 to 18; 0, 1, 10 and 11 are goalies. The players 9 and 19 are skaters of no club.
     */
    static Blueline twoClubs() {
        Blueline hall = new Blueline();
        hall.club();
        hall.club();
        for (int player = 0; player < 20; player++) {
            hall.player(player % 10 < 2, 100 + player);
        }
        for (int player = 0; player < 9; player++) {
            hall.sign(player, 0);
            hall.sign(10 + player, 1);
        }
        return hall;
    }

    /**
     * A match of the two clubs that has begun, with all 9 players in both line-ups: on the ice are 0, 2 to 6 and
     * 10, 12 to 16; on the bench 1, 7, 8 and 11, 17, 18.
     */
    static Blueline begun(int edition) {
        Blueline hall = twoClubs();
        laid(hall, edition);
        hall.begin();
        return hall;
    }

    static void laid(Blueline hall, int edition) {
        hall.match(0, 1, edition);
        for (int player = 0; player < 9; player++) {
            hall.dress(0, player);
            hall.dress(1, 10 + player);
        }
    }

    /** A match as begun, after a face-off at a place. */
    static Blueline playing(int edition, int place) {
        Blueline hall = begun(edition);
        hall.faceOff(place);
        return hall;
    }

    /** Lets a skater score who is on the ice, behind a face-off at the far end. */
    static void scoreBy(Blueline hall, int scorer) {
        hall.faceOff(scorer < 10 ? 3 : 0);
        hall.touch(scorer);
        hall.goal(scorer, -1, -1);
    }

    /** Lets the period run out from a stop. */
    static void endPeriod(Blueline hall) {
        hall.faceOff(1);
        hall.run(hall.clock());
    }

    /** Plays what is left of the periods 1 to 3, from a stop. */
    static void endThirdPeriod(Blueline hall) {
        int last = hall.period();
        for (int period = last; period <= 3; period++) {
            endPeriod(hall);
        }
    }
}
