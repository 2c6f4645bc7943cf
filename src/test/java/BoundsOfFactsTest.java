/** The sentences of promises 1 to 6 that name a bound, each with a test of its own. */
public final class BoundsOfFactsTest {
    private static final Checks checks = new Checks();

    // Promise 1: "Begins with a debate without claims": nothing can be asked of the first claim
    private static void promise1WithoutClaims() {
        Quarrelboard x = new Quarrelboard();
        checks.due("claims", x.claims(), 0);
        checks.dueIndex("playerOf(0)", () -> x.playerOf(0));
        checks.dueIndex("stateOf(0)", () -> x.stateOf(0));
        checks.dueIndex("stateByRounds(0)", () -> x.stateByRounds(0));
        checks.dueIndex("rest(0, 1)", () -> x.rest(0, 1));
        checks.dueIndex("attack(0, 1)", () -> x.attack(0, 1));
        checks.due("verdict", x.verdict(), Quarrelboard.NONE);
        for (int player = 0; player < 3; player++) {
            checks.due("score", x.score(player), 0);
        }
    }

    // Promise 1: "and without facts"
    private static void promise1WithoutFacts() {
        Quarrelboard x = new Quarrelboard();
        checks.due("facts", x.facts(), 0);
        checks.dueIndex("withdraw(0)", () -> x.withdraw(0));
        checks.dueIndex("factStands(0)", () -> x.factStands(0));
        checks.dueIndex("scoreWithout(0, 0)", () -> x.scoreWithout(0, 0));
        checks.dueArgument("claim(1, 1)", () -> x.claim(1, 1));
        for (int player = 0; player < 3; player++) {
            checks.due("keyFact", x.keyFact(player), Quarrelboard.NONE);
        }
    }

    // Promise 2: "Returns its number": the first, each one, the last, whatever its source
    private static void promise2EachNumber() {
        for (int source = 0; source < 6; source++) {
            Quarrelboard x = new Quarrelboard();
            for (int fact = 0; fact < 14; fact++) {
                checks.due("addFact(" + source + ")", x.addFact(source), fact);
            }
        }
    }

    // Promise 2: "Throws IndexOutOfBoundsException as told"
    private static void promise2NoSuchSource() {
        for (int facts = 0; facts <= 14; facts++) {
            Quarrelboard x = Boards.withFacts(facts);
            checks.dueIndex("addFact(-1), with " + facts, () -> x.addFact(-1));
            checks.dueIndex("addFact(6), with " + facts, () -> x.addFact(6));
            checks.due("facts", x.facts(), facts);
        }
    }

    // Promise 2: "Throws IllegalStateException if there are 14": also if none of them stands
    private static void promise2IfThereAre14() {
        Quarrelboard x = Boards.withFacts(14);
        for (int fact = 0; fact < 14; fact++) {
            checks.dueState("addFact", () -> x.addFact(0));
            x.withdraw(fact);
        }
        checks.dueState("addFact, all withdrawn", () -> x.addFact(0));
        x.toggleSource(0);
        checks.dueState("addFact, of a fallen source", () -> x.addFact(0));
        x.close();
        checks.dueState("addFact, in the next debate", () -> x.addFact(0));
        checks.due("facts", x.facts(), 14);
    }

    // Promise 2: 13 are not 14, also if calls were refused before
    private static void promise2IfThereAre13() {
        Quarrelboard x = Boards.withFacts(13);
        for (int more = 0; more < 5; more++) {
            checks.dueIndex("addFact(6)", () -> x.addFact(6));
        }
        checks.due("the fourteenth", x.addFact(5), 13);
        checks.dueState("the fifteenth", () -> x.addFact(5));
    }

    // Promise 3: "Lets a source fall, or stand again. Returns true if it stands then."
    private static void promise3AgainAndAgain() {
        for (int source = 0; source < 6; source++) {
            Quarrelboard x = Boards.withFacts(12);
            for (int time = 1; time <= 30; time++) {
                checks.due("toggleSource", x.toggleSource(source), time % 2 == 0);
                checks.due("its first fact", x.factStands(source), time % 2 == 0);
                checks.due("its second fact", x.factStands(source + 6), time % 2 == 0);
                checks.due("another source's", x.factStands((source + 1) % 6), true);
            }
        }
    }

    // Promise 3: "Throws IndexOutOfBoundsException as told": without facts and with all
    private static void promise3NoSuchSource() {
        for (int facts : new int[] {0, 14}) {
            Quarrelboard x = Boards.withFacts(facts);
            checks.dueIndex("toggleSource(-1)", () -> x.toggleSource(-1));
            checks.dueIndex("toggleSource(6)", () -> x.toggleSource(6));
            for (int source = 0; source < 6; source++) {
                checks.due("it stood", x.toggleSource(source), false);
            }
        }
    }

    // Promise 3: a source without facts falls too; a fact that is added to it then does not stand
    private static void promise3BeforeItsFacts() {
        for (int source = 0; source < 6; source++) {
            Quarrelboard x = new Quarrelboard();
            x.toggleSource(source);
            x.addFact(source);
            checks.due("a fact of a fallen source", x.factStands(0), false);
            checks.due("it stands again", x.toggleSource(source), true);
            checks.due("and its fact", x.factStands(0), true);
        }
    }

    // Promise 4: "Withdraws a fact, for good.": toggles, other withdrawals, debates
    private static void promise4ForGood() {
        for (int fact = 0; fact < 14; fact++) {
            Quarrelboard x = Boards.withFacts(14);
            x.withdraw(fact);
            for (int time = 0; time < 4; time++) {
                checks.due("withdrawn", x.factStands(fact), false);
                x.toggleSource(fact % 6);
            }
            x.withdraw(fact);
            checks.due("withdrawn twice", x.factStands(fact), false);
            x.close();
            x.close();
            checks.due("withdrawn two debates ago", x.factStands(fact), false);
            checks.due("just this one", x.factStands((fact + 1) % 14), true);
            checks.due("and this", x.factStands((fact + 13) % 14), true);
        }
    }

    // Promise 4: "Returns true if it was not withdrawn before.": its source does not count
    private static void promise4NotBefore() {
        Quarrelboard x = Boards.withFacts(14);
        for (int source = 0; source < 6; source += 2) {
            x.toggleSource(source);
        }
        for (int fact = 0; fact < 14; fact++) {
            checks.due("the first time", x.withdraw(fact), true);
            checks.due("the second time", x.withdraw(fact), false);
            checks.due("the third time", x.withdraw(fact), false);
        }
        for (int source = 0; source < 6; source++) {
            x.toggleSource(source);
        }
        x.close();
        for (int fact = 0; fact < 14; fact++) {
            checks.due("in the next debate", x.withdraw(fact), false);
        }
    }

    // Promises 4 and 5: "Throws IndexOutOfBoundsException as told": at each number of facts
    private static void promises4And5NoSuchFact() {
        for (int facts = 0; facts <= 14; facts++) {
            Quarrelboard x = Boards.withFacts(facts);
            int count = facts;
            checks.dueIndex("withdraw(-1)", () -> x.withdraw(-1));
            checks.dueIndex("withdraw, of " + count, () -> x.withdraw(count));
            checks.dueIndex("factStands(-1)", () -> x.factStands(-1));
            checks.dueIndex("factStands, of " + count, () -> x.factStands(count));
            if (count > 0) {
                checks.due("the last stands", x.factStands(count - 1), true);
                checks.due("the last can be withdrawn", x.withdraw(count - 1), true);
            }
        }
    }

    // Promise 4: a refused withdraw does not reach the fact that gets that number later
    private static void promise4NotAhead() {
        Quarrelboard x = new Quarrelboard();
        for (int fact = 0; fact < 14; fact++) {
            int next = fact;
            checks.dueIndex("withdraw ahead", () -> x.withdraw(next));
            x.addFact(fact % 6);
            checks.due("it stands", x.factStands(fact), true);
        }
        for (int fact = 0; fact < 14; fact++) {
            checks.due("it was not withdrawn", x.withdraw(fact), true);
        }
    }

    // Promise 5: "Returns whether a fact stands.": the first and the last, of each source
    private static void promise5FirstAndLast() {
        for (int source = 0; source < 6; source++) {
            Quarrelboard x = new Quarrelboard();
            for (int fact = 0; fact < 14; fact++) {
                x.addFact(source);
            }
            x.withdraw(6);
            checks.due("the first", x.factStands(0), true);
            checks.due("one below", x.factStands(5), true);
            checks.due("the one", x.factStands(6), false);
            checks.due("one above", x.factStands(7), true);
            checks.due("the last", x.factStands(13), true);
            x.toggleSource(source);
            checks.due("the first then", x.factStands(0), false);
            checks.due("the last then", x.factStands(13), false);
        }
    }

    // Promise 6: "Returns how many facts there are.": from none to 14
    private static void promise6From0To14() {
        Quarrelboard x = new Quarrelboard();
        for (int fact = 0; fact < 14; fact++) {
            checks.due("facts", x.facts(), fact);
            x.addFact(fact % 6);
        }
        checks.due("facts of the full board", x.facts(), 14);
        for (int fact = 0; fact < 14; fact++) {
            x.withdraw(fact);
        }
        checks.due("facts, all withdrawn", x.facts(), 14);
        x.close();
        checks.due("facts, in the next debate", x.facts(), 14);
    }

    public static void main(String[] args) {
        promise1WithoutClaims();
        promise1WithoutFacts();
        promise2EachNumber();
        promise2NoSuchSource();
        promise2IfThereAre14();
        promise2IfThereAre13();
        promise3AgainAndAgain();
        promise3NoSuchSource();
        promise3BeforeItsFacts();
        promise4ForGood();
        promise4NotBefore();
        promises4And5NoSuchFact();
        promise4NotAhead();
        promise5FirstAndLast();
        promise6From0To14();
        checks.end();
    }
}
