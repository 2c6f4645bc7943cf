/** Promises 1 to 6: a new object, facts and sources. */
public final class FactsTest {
    private static final int[] NO_SOURCES = {-1, 6, 7, 32, Integer.MIN_VALUE, Integer.MAX_VALUE};
    private static final Checks checks = new Checks();

    private static void promise1NewObject() {
        Quarrelboard x = new Quarrelboard();
        checks.due("new: claims", x.claims(), 0);
        checks.due("new: facts", x.facts(), 0);
        checks.due("new: turn", x.turn(), 0);
        checks.due("new: verdict", x.verdict(), Quarrelboard.NONE);
        for (int player = 0; player < 3; player++) {
            checks.due("new: bank", x.bank(player), 300);
            checks.due("new: score", x.score(player), 0);
            checks.due("new: keyFact", x.keyFact(player), Quarrelboard.NONE);
            checks.due("new: reputation", x.reputation(player), 0);
        }
        for (int source = 0; source < 6; source++) {
            checks.due("new: a source stood", x.toggleSource(source), false);
        }
        checks.due("new: close", x.close(), 1);
    }

    private static void promise1ObjectsAreApart() {
        Quarrelboard x = new Quarrelboard();
        Quarrelboard y = new Quarrelboard();
        x.addFact(0);
        x.claim(1, 7);
        x.toggleSource(0);
        x.close();
        x.claim(0, 9);
        checks.due("another object: facts", y.facts(), 0);
        checks.due("another object: claims", y.claims(), 0);
        checks.due("another object: turn", y.turn(), 0);
        checks.due("another object: bank", y.bank(0), 300);
        checks.due("another object: reputation", y.reputation(0), 0);
        y.addFact(0);
        checks.due("another object: factStands", y.factStands(0), true);
        checks.due("another object: close", y.close(), 1);
    }

    private static void promise2AddFact() {
        Quarrelboard x = new Quarrelboard();
        for (int fact = 0; fact < 14; fact++) {
            checks.due("addFact", x.addFact(5 - fact % 6), fact);
            checks.due("facts after addFact", x.facts(), fact + 1);
            checks.due("a new fact stands", x.factStands(fact), true);
        }
        for (int source = 0; source < 6; source++) {
            int more = source;
            checks.dueState("a fact too many", () -> x.addFact(more));
        }
        checks.due("facts after one too many", x.facts(), 14);
        x.toggleSource(5);
        for (int fact = 0; fact < 14; fact++) {
            checks.due("only facts of the source fall", x.factStands(fact), fact % 6 != 0);
        }
        for (int none : NO_SOURCES) {
            checks.dueIndex("addFact of a full board", () -> x.addFact(none));
        }
    }

    private static void promise2NoSuchSource() {
        Quarrelboard x = new Quarrelboard();
        for (int none : NO_SOURCES) {
            checks.dueIndex("addFact(" + none + ")", () -> x.addFact(none));
        }
        checks.due("facts after those", x.facts(), 0);
        checks.due("the first fact after those", x.addFact(5), 0);
    }

    private static void promise2OfAFallenSource() {
        Quarrelboard x = new Quarrelboard();
        x.toggleSource(3);
        checks.due("addFact of a fallen source", x.addFact(3), 0);
        checks.due("which does not stand", x.factStands(0), false);
        x.toggleSource(3);
        checks.due("but stands with it", x.factStands(0), true);
    }

    private static void promise3ToggleSource() {
        Quarrelboard x = Boards.withFacts(14);
        for (int source = 0; source < 6; source++) {
            checks.due("a source falls", x.toggleSource(source), false);
            for (int fact = 0; fact < 14; fact++) {
                checks.due("facts of others stand", x.factStands(fact), fact % 6 > source);
            }
        }
        for (int source = 0; source < 6; source++) {
            checks.due("a source stands again", x.toggleSource(source), true);
            for (int fact = 0; fact < 14; fact++) {
                checks.due("its facts stand again", x.factStands(fact), fact % 6 <= source);
            }
        }
        for (int none : NO_SOURCES) {
            checks.dueIndex("toggleSource(" + none + ")", () -> x.toggleSource(none));
        }
        for (int fact = 0; fact < 14; fact++) {
            checks.due("all stand still", x.factStands(fact), true);
        }
    }

    private static void promise4Withdraw() {
        Quarrelboard x = Boards.withFacts(14);
        checks.due("withdraw", x.withdraw(13), true);
        checks.due("withdraw again", x.withdraw(13), false);
        checks.due("withdraw the first", x.withdraw(0), true);
        checks.due("a third time", x.withdraw(13), false);
        for (int fact = 0; fact < 14; fact++) {
            checks.due("only those are gone", x.factStands(fact), fact != 0 && fact != 13);
        }
        checks.due("the number of facts stays", x.facts(), 14);
        x.toggleSource(0);
        x.toggleSource(0);
        checks.due("it is for good", x.factStands(0), false);
        x.close();
        checks.due("it is for good in the next debate", x.factStands(0), false);
        checks.due("withdraw again then", x.withdraw(0), false);
    }

    private static void promise4WithdrawOfAFallenSource() {
        Quarrelboard x = Boards.withFacts(2);
        x.toggleSource(1);
        checks.due("withdraw a fact of a fallen source", x.withdraw(1), true);
        x.toggleSource(1);
        checks.due("it does not stand again", x.factStands(1), false);
        checks.dueState("a withdrawn fact keeps its place", () -> {
            for (int more = 0; more < 12; more++) {
                x.addFact(2);
            }
            return x.addFact(2);
        });
        checks.due("facts", x.facts(), 14);
    }

    private static void promises4And5NoSuchFact() {
        Quarrelboard x = new Quarrelboard();
        checks.dueIndex("withdraw without facts", () -> x.withdraw(0));
        checks.dueIndex("factStands without facts", () -> x.factStands(0));
        x.addFact(1);
        x.addFact(1);
        int[] none = {-1, 2, 13, 14, 32, 33, Integer.MIN_VALUE, Integer.MAX_VALUE};
        for (int fact : none) {
            checks.dueIndex("withdraw(" + fact + ")", () -> x.withdraw(fact));
            checks.dueIndex("factStands(" + fact + ")", () -> x.factStands(fact));
        }
        checks.due("the last fact stands", x.factStands(1), true);
        checks.due("a later fact was not withdrawn", x.addFact(1) == 2 && x.factStands(2), true);
    }

    private static void promise5FactStands() {
        Quarrelboard x = Boards.withFacts(7);
        checks.due("it stands", x.factStands(0), true);
        x.toggleSource(0);
        checks.due("its source fell", x.factStands(0), false);
        checks.due("the source of this too", x.factStands(6), false);
        checks.due("another stands", x.factStands(1), true);
        x.toggleSource(0);
        x.withdraw(6);
        checks.due("it stands again", x.factStands(0), true);
        checks.due("this was withdrawn", x.factStands(6), false);
        x.toggleSource(2);
        x.close();
        checks.due("a source that fell stays so over debates", x.factStands(2), false);
        checks.due("and one that stands", x.factStands(3), true);
    }

    private static void promise6Facts() {
        Quarrelboard x = Boards.withFacts(3);
        checks.due("facts", x.facts(), 3);
        x.withdraw(1);
        x.toggleSource(2);
        checks.due("facts that don't stand count", x.facts(), 3);
        x.close();
        checks.due("facts outlast a debate", x.facts(), 3);
        checks.due("the next number", x.addFact(0), 3);
        checks.due("facts then", x.facts(), 4);
    }

    public static void main(String[] args) {
        promise1NewObject();
        promise1ObjectsAreApart();
        promise2AddFact();
        promise2NoSuchSource();
        promise2OfAFallenSource();
        promise3ToggleSource();
        promise4Withdraw();
        promise4WithdrawOfAFallenSource();
        promises4And5NoSuchFact();
        promise5FactStands();
        promise6Facts();
        checks.end();
    }
}
