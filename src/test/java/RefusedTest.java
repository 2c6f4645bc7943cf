import java.util.ArrayList;
import java.util.LinkedHashMap;
import java.util.List;
import java.util.Map;

/**
 * "A call that throws changes nothing": each refused call is made on a board of its own, and every
 * later answer must be as on a board on which it was not made. The same of each call that only asks.
 * That no answer is wrong on both boards is for the other tests.
 */
public final class RefusedTest {
    private interface Maker {
        Quarrelboard make();
    }

    private interface Step {
        Object on(Quarrelboard x);
    }

    private interface Course {
        List<Object> on(Quarrelboard x);
    }

    /** A call, and the name of what it must throw; null if it must not throw. */
    private record Call(String name, Step step, String thrown) {
    }

    private static final String INDEX = "IndexOutOfBoundsException";
    private static final String ARGUMENT = "IllegalArgumentException";
    private static final String STATE = "IllegalStateException";
    private static final Checks checks = new Checks();

    // ---- the boards on which calls are refused

    private static Map<String, Maker> boards() {
        Map<String, Maker> boards = new LinkedHashMap<>();
        boards.put("new", Quarrelboard::new);
        boards.put("one fact, one claim", () -> filled(1, 1));
        boards.put("13 facts, 15 claims", () -> filled(13, 15));
        boards.put("14 facts, 16 claims", () -> filled(14, 16));
        boards.put("14 facts, no claim", () -> filled(14, 0));
        boards.put("no fact, 16 claims", () -> filled(0, 16));
        for (int player = 0; player < 3; player++) {
            int of = player;
            boards.put("the player " + of + " without seconds", () -> Boards.withBank(of, 0));
            boards.put("the player " + of + " with 99 seconds", () -> Boards.withBank(of, 99));
        }
        boards.put("in the midst of a debate", RefusedTest::inTheMidst);
        boards.put("no fact stands", RefusedTest::noFactStands);
        boards.put("the next debate of a full one", RefusedTest::nextOfFull);
        return boards;
    }

    /** Each claim rests on a fact, if there is one; some rest on and attack the one before. */
    private static Quarrelboard filled(int facts, int claims) {
        Quarrelboard x = Boards.withFacts(facts);
        for (int claim = 0; claim < claims; claim++) {
            x.claim(facts == 0 ? 0 : 1 << claim % facts, 1);
            if (claim % 4 == 1) {
                x.attack(claim, claim - 1);
            } else if (claim % 4 == 3) {
                x.rest(claim, claim - 1);
            }
        }
        return x;
    }

    private static Quarrelboard inTheMidst() {
        Quarrelboard x = filled(7, 8);
        x.attack(0, 1);
        x.rest(2, 1);
        x.attack(4, 7);
        x.withdraw(6);
        x.toggleSource(3);
        return x;
    }

    private static Quarrelboard noFactStands() {
        Quarrelboard x = filled(9, 5);
        for (int fact = 0; fact < 9; fact += 2) {
            x.withdraw(fact);
        }
        for (int source = 1; source < 6; source++) {
            x.toggleSource(source);
        }
        return x;
    }

    private static Quarrelboard nextOfFull() {
        Quarrelboard x = filled(14, 16);
        x.toggleSource(2);
        x.withdraw(5);
        x.close();
        x.skip();
        x.claim(3, 40);
        x.claim(4, 60);
        return x;
    }

    // ---- the calls that are refused

    private static List<Call> refusedCalls(Quarrelboard x) {
        List<Call> calls = new ArrayList<>();
        addOfSources(calls, x.facts());
        addOfFacts(calls, x.facts());
        addOfClaim(calls, x.facts());
        addOfFullAndPoor(calls, x);
        addOfTies(calls, x.claims());
        addOfClaims(calls, x.claims());
        addOfPlayers(calls);
        return calls;
    }

    private static void add(List<Call> calls, String thrown, String name, Step step) {
        calls.add(new Call(name, step, thrown));
    }

    /** All numbers to 16 that are not below the count, those below 0, and those far off. */
    private static List<Integer> outOf(int count) {
        List<Integer> numbers = new ArrayList<>();
        numbers.add(-1);
        for (int number = count; number <= 16; number++) {
            numbers.add(number);
        }
        for (int far : Boards.FAR) {
            numbers.add(far);
        }
        return numbers;
    }

    private static void addOfSources(List<Call> calls, int facts) {
        for (int none : outOf(6)) {
            add(calls, INDEX, "addFact(" + none + ")", x -> x.addFact(none));
            add(calls, INDEX, "toggleSource(" + none + ")", x -> x.toggleSource(none));
        }
        for (int source = 0; source < 6 && facts == 14; source++) {
            int of = source;
            add(calls, STATE, "addFact(" + of + "), of 14", x -> x.addFact(of));
        }
    }

    private static void addOfFacts(List<Call> calls, int facts) {
        for (int none : outOf(facts)) {
            add(calls, INDEX, "withdraw(" + none + ")", x -> x.withdraw(none));
            add(calls, INDEX, "factStands(" + none + ")", x -> x.factStands(none));
            add(calls, INDEX, "scoreWithout(2, " + none + ")", x -> x.scoreWithout(2, none));
        }
    }

    private static void addOfClaim(List<Call> calls, int facts) {
        int all = (1 << facts) - 1;
        for (int none = facts; none < 32; none++) {
            int one = 1 << none;
            add(calls, ARGUMENT, "claim(" + one + ", 1)", x -> x.claim(one, 1));
            add(calls, ARGUMENT, "claim(" + (one | all) + ", 100)", x -> x.claim(one | all, 100));
        }
        add(calls, ARGUMENT, "claim(-1, 1)", x -> x.claim(-1, 1));
        add(calls, ARGUMENT, "claim(-1, 0)", x -> x.claim(-1, 0));
        for (int seconds : outOf(101)) {
            if (seconds < 1 || seconds > 100) {
                add(calls, ARGUMENT, "claim(0, " + seconds + ")", x -> x.claim(0, seconds));
            }
        }
        add(calls, ARGUMENT, "claim(all, 0)", x -> x.claim(all, 0));
        add(calls, ARGUMENT, "claim(all, 101)", x -> x.claim(all, 101));
    }

    private static void addOfFullAndPoor(List<Call> calls, Quarrelboard board) {
        int all = (1 << board.facts()) - 1;
        int left = board.bank(board.turn());
        if (board.claims() == 16) {
            add(calls, STATE, "claim(0, 1), of 16", x -> x.claim(0, 1));
            add(calls, STATE, "claim(all, 100), of 16", x -> x.claim(all, 100));
        }
        if (left < 100) {
            add(calls, STATE, "claim(0, one more than is left)", x -> x.claim(0, left + 1));
            add(calls, STATE, "claim(all, more than is left)", x -> x.claim(all, 100));
        }
    }

    private static void addOfTies(List<Call> calls, int claims) {
        List<Integer> ends = new ArrayList<>(List.of(0));
        if (claims > 1) {
            ends.add(claims - 1);
        }
        for (int none : outOf(claims)) {
            for (int one : ends) {
                add(calls, INDEX, "rest(" + none + ", " + one + ")", x -> x.rest(none, one));
                add(calls, INDEX, "rest(" + one + ", " + none + ")", x -> x.rest(one, none));
                add(calls, INDEX, "attack(" + none + ", " + one + ")", x -> x.attack(none, one));
                add(calls, INDEX, "attack(" + one + ", " + none + ")", x -> x.attack(one, none));
            }
            add(calls, INDEX, "rest(" + none + ", itself)", x -> x.rest(none, none));
            add(calls, INDEX, "attack(" + none + ", itself)", x -> x.attack(none, none));
        }
        for (int claim = 0; claim < claims; claim++) {
            int same = claim;
            add(calls, ARGUMENT, "rest(" + same + ", itself)", x -> x.rest(same, same));
            add(calls, ARGUMENT, "attack(" + same + ", itself)", x -> x.attack(same, same));
        }
    }

    private static void addOfClaims(List<Call> calls, int claims) {
        for (int none : outOf(claims)) {
            add(calls, INDEX, "playerOf(" + none + ")", x -> x.playerOf(none));
            add(calls, INDEX, "stateOf(" + none + ")", x -> x.stateOf(none));
            add(calls, INDEX, "stateByRounds(" + none + ")", x -> x.stateByRounds(none));
        }
    }

    private static void addOfPlayers(List<Call> calls) {
        for (int none : outOf(3)) {
            add(calls, INDEX, "bank(" + none + ")", x -> x.bank(none));
            add(calls, INDEX, "score(" + none + ")", x -> x.score(none));
            add(calls, INDEX, "scoreWithout(" + none + ", 0)", x -> x.scoreWithout(none, 0));
            add(calls, INDEX, "keyFact(" + none + ")", x -> x.keyFact(none));
            add(calls, INDEX, "reputation(" + none + ")", x -> x.reputation(none));
        }
    }

    // ---- the calls that only ask

    private static List<Call> questions() {
        List<Call> calls = new ArrayList<>();
        add(calls, null, "facts()", x -> x.facts());
        add(calls, null, "claims()", x -> x.claims());
        add(calls, null, "turn()", x -> x.turn());
        add(calls, null, "verdict()", x -> x.verdict());
        for (int number = 0; number < 16; number++) {
            int n = number;
            add(calls, null, "factStands(" + n + ")", x -> x.factStands(n));
            add(calls, null, "playerOf(" + n + ")", x -> x.playerOf(n));
            add(calls, null, "stateOf(" + n + ")", x -> x.stateOf(n));
            add(calls, null, "stateByRounds(" + n + ")", x -> x.stateByRounds(n));
            add(calls, null, "scoreWithout(" + n % 3 + ", " + n + ")", x -> x.scoreWithout(n % 3, n));
        }
        for (int player = 0; player < 3; player++) {
            int of = player;
            add(calls, null, "bank(" + of + ")", x -> x.bank(of));
            add(calls, null, "score(" + of + ")", x -> x.score(of));
            add(calls, null, "keyFact(" + of + ")", x -> x.keyFact(of));
            add(calls, null, "reputation(" + of + ")", x -> x.reputation(of));
        }
        return calls;
    }

    // ---- the later answers: of calls that are not refused, which could hide what one changed

    private static void note(List<Object> answers, Quarrelboard x, Step step) {
        answers.add(Checks.answer(() -> step.on(x)));
    }

    private static void askAll(List<Object> answers, Quarrelboard x) {
        note(answers, x, y -> y.facts());
        note(answers, x, y -> y.claims());
        note(answers, x, y -> y.turn());
        note(answers, x, y -> y.verdict());
        for (int player = 0; player < 3; player++) {
            int of = player;
            note(answers, x, y -> y.bank(of));
            note(answers, x, y -> y.score(of));
            note(answers, x, y -> y.keyFact(of));
            note(answers, x, y -> y.reputation(of));
        }
        askFacts(answers, x);
        askClaims(answers, x);
    }

    private static void askFacts(List<Object> answers, Quarrelboard x) {
        int facts = x.facts();
        for (int fact = 0; fact < facts; fact++) {
            int of = fact;
            note(answers, x, y -> y.factStands(of));
            for (int player = 0; player < 3; player++) {
                int whose = player;
                note(answers, x, y -> y.scoreWithout(whose, of));
            }
        }
    }

    private static void askClaims(List<Object> answers, Quarrelboard x) {
        int claims = x.claims();
        for (int claim = 0; claim < claims; claim++) {
            int of = claim;
            note(answers, x, y -> y.playerOf(of));
            note(answers, x, y -> y.stateOf(of));
            note(answers, x, y -> y.stateByRounds(of));
        }
    }

    private static void fillWithFacts(List<Object> answers, Quarrelboard x) {
        for (int fact = x.facts(); fact < 14; fact++) {
            int source = fact % 6;
            note(answers, x, y -> y.addFact(source));
        }
        for (int fact = 0; fact < 14; fact++) {
            int of = fact;
            note(answers, x, y -> y.factStands(of));
        }
    }

    /** As many claims as there is room for; of a second, or none if the bank is empty. */
    private static void fillWithClaims(List<Object> answers, Quarrelboard x) {
        for (int claim = x.claims(); claim < 16; claim++) {
            int facts = claim % 5;
            if (x.bank(x.turn()) > 0) {
                note(answers, x, y -> y.claim(facts, 1));
            } else {
                note(answers, x, y -> y.skip());
            }
        }
    }

    /** The debate goes on, is closed, and the next one is filled. */
    private static List<Object> debateGoesOn(Quarrelboard x) {
        List<Object> answers = new ArrayList<>();
        askAll(answers, x);
        fillWithFacts(answers, x);
        fillWithClaims(answers, x);
        askClaims(answers, x);
        for (int source = 0; source < 6; source++) {
            int of = source;
            note(answers, x, y -> y.toggleSource(of));
        }
        for (int fact = 0; fact < 14; fact += 3) {
            int of = fact;
            note(answers, x, y -> y.withdraw(of));
        }
        note(answers, x, y -> y.skip());
        note(answers, x, y -> y.close());
        fillWithClaims(answers, x);
        askAll(answers, x);
        note(answers, x, y -> y.close());
        return answers;
    }

    /** Turns every tie of one kind, which tells each that was there, and counts what stands then. */
    private static List<Object> tiesAreTurned(Quarrelboard x, boolean attacks) {
        List<Object> answers = new ArrayList<>();
        fillWithFacts(answers, x);
        fillWithClaims(answers, x);
        int claims = x.claims();
        for (int claim = 0; claim < claims; claim++) {
            for (int other = 0; other < claims; other++) {
                int one = claim;
                int two = other;
                if (one != two) {
                    note(answers, x, y -> attacks ? y.attack(one, two) : y.rest(one, two));
                }
            }
        }
        askClaims(answers, x);
        note(answers, x, y -> y.close());
        for (int player = 0; player < 3; player++) {
            int of = player;
            note(answers, x, y -> y.reputation(of));
        }
        return answers;
    }

    /** Makes the call so many times on a board, and looks at what it answers, if it must throw. */
    private static void make(String where, Call call, int times, Quarrelboard x) {
        for (int time = 0; time < times; time++) {
            Object answer = Checks.answer(() -> call.step().on(x));
            if (call.thrown() != null) {
                checks.due(where + ": " + call.name(), answer, call.thrown());
            }
        }
    }

    /** The times must be no multiple of 2 or 3, by which what was changed could come round again. */
    private static void dueTheSame(
            String where, Maker maker, List<Call> calls, int times, Course course) {
        List<Object> want = course.on(maker.make());
        for (Call call : calls) {
            Quarrelboard x = maker.make();
            make(where, call, times, x);
            List<Object> got = course.on(x);
            int same = 0;
            while (same < Math.min(want.size(), got.size()) && want.get(same).equals(got.get(same))) {
                same++;
            }
            checks.due(where + ": the later answers after " + call.name() + " that are the same", same,
                    Math.max(want.size(), got.size()));
        }
    }

    public static void main(String[] args) {
        for (Map.Entry<String, Maker> board : boards().entrySet()) {
            String where = board.getKey();
            Maker maker = board.getValue();
            List<Call> calls = refusedCalls(maker.make());
            calls.addAll(questions());
            dueTheSame(where, maker, calls, 1, RefusedTest::debateGoesOn);
            dueTheSame(where, maker, calls, 5, x -> tiesAreTurned(x, false));
            dueTheSame(where, maker, calls, 5, x -> tiesAreTurned(x, true));
        }
        checks.end();
    }
}
