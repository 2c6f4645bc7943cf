/** Promises 21 and 22: closing debates, and reputations over them. */
public final class DebatesTest {
    private static final Checks checks = new Checks();

    private static void dueReputations(String what, Quarrelboard x, int zero, int one, int two) {
        checks.due(what + ": reputation(0)", x.reputation(0), zero);
        checks.due(what + ": reputation(1)", x.reputation(1), one);
        checks.due(what + ": reputation(2)", x.reputation(2), two);
    }

    private static void promise21CountsDebates() {
        Quarrelboard x = new Quarrelboard();
        for (int debate = 1; debate <= 400; debate++) {
            checks.due("close", x.close(), debate);
        }
        dueReputations("debates without claims", x, 0, 0, 0);
    }

    private static void promise21NextDebate() {
        Quarrelboard x = new Quarrelboard();
        x.addFact(0);
        x.addFact(1);
        x.addFact(2);
        x.withdraw(2);
        x.toggleSource(1);
        x.claim(1, 100);
        x.claim(1, 50);
        x.rest(0, 1);
        x.attack(0, 1);
        checks.due("close", x.close(), 1);
        checks.due("no claims", x.claims(), 0);
        checks.due("the turn", x.turn(), 0);
        for (int player = 0; player < 3; player++) {
            checks.due("the bank", x.bank(player), 300);
            checks.due("the score", x.score(player), 0);
        }
        checks.due("the verdict", x.verdict(), Quarrelboard.NONE);
        checks.due("the facts stay", x.facts(), 3);
        checks.due("one stands", x.factStands(0), true);
        checks.due("of one the source fell", x.factStands(1), false);
        checks.due("one was withdrawn", x.factStands(2), false);
        checks.due("the source stands again", x.toggleSource(1), true);
    }

    private static void promise21NothingIsLeftOfClaims() {
        Quarrelboard x = new Quarrelboard();
        x.addFact(0);
        x.toggleSource(0);
        for (int claim = 0; claim < 16; claim++) {
            x.claim(1, 1);
        }
        for (int claim = 0; claim < 15; claim++) {
            x.rest(claim, claim + 1);
            x.attack(claim + 1, claim);
            x.attack(claim, claim + 1);
        }
        x.close();
        for (int claim = 0; claim < 16; claim++) {
            checks.due("a claim of the next debate", x.claim(0, 1), claim);
            checks.due("its player", x.playerOf(claim), claim % 3);
        }
        for (int claim = 0; claim < 16; claim++) {
            checks.due("it rests on nothing", x.stateOf(claim), Quarrelboard.IN);
            checks.due("it rests on nothing, by rounds", x.stateByRounds(claim), Quarrelboard.IN);
        }
        checks.due("no rest is left", x.rest(0, 1), true);
        checks.due("no attack is left", x.attack(2, 1), true);
    }

    private static void promise21Reputations() {
        Quarrelboard x = new Quarrelboard();
        x.addFact(0);
        x.addFact(1);
        x.addFact(1);
        x.claim(1, 1); // 0: IN
        x.claim(6, 1); // 1: on two facts that fall, counted once
        x.claim(0, 1); // 2: IN
        x.claim(3, 1); // 3: on one that stands and one that falls
        x.claim(0, 1); // 4: rests on a claim that falls, not itself on a fact
        x.claim(0, 1); // 5: attacked
        x.claim(0, 1); // 6: IN
        x.rest(4, 1);
        x.attack(2, 5);
        x.toggleSource(1);
        x.close();
        dueReputations("the first debate", x, 1, -1, 1);
        x.claim(2, 1);
        x.claim(0, 1);
        x.skip();
        x.claim(6, 1);
        x.close();
        dueReputations("the second debate adds to it", x, -1, 0, 1);
        x.toggleSource(1);
        dueReputations("a debate that is closed stays so", x, -1, 0, 1);
        x.claim(2, 1);
        x.close();
        dueReputations("the third debate", x, 0, 0, 1);
    }

    private static void promise21OpenAndOut() {
        Quarrelboard x = new Quarrelboard();
        x.addFact(3);
        x.claim(1, 1);
        x.claim(0, 1);
        x.claim(0, 1);
        x.attack(1, 2);
        x.attack(2, 1);
        x.attack(1, 0);
        x.close();
        dueReputations("OPEN ones neither add nor take", x, 0, 0, 0);
        x.claim(1, 1);
        x.claim(0, 1);
        x.attack(1, 0);
        x.close();
        dueReputations("an OUT one on a fact that stands takes nothing", x, 0, 1, 0);
        x.withdraw(0);
        x.claim(1, 1);
        x.claim(0, 1);
        x.attack(1, 0);
        x.close();
        dueReputations("one on a withdrawn fact takes one", x, -1, 2, 0);
    }

    private static void promise21MostAndLeast() {
        Quarrelboard x = new Quarrelboard();
        x.addFact(0);
        x.toggleSource(0);
        for (int claim = 0; claim < 16; claim++) {
            x.claim(1, 1);
        }
        x.close();
        dueReputations("all of them ill founded", x, -6, -5, -5);
        for (int claim = 0; claim < 16; claim++) {
            x.claim(0, 1);
        }
        x.close();
        dueReputations("all of them IN", x, 0, 0, 0);
    }

    private static void promise22Reputation() {
        Quarrelboard x = new Quarrelboard();
        dueReputations("at first", x, 0, 0, 0);
        x.claim(0, 1);
        dueReputations("before the debate is closed", x, 0, 0, 0);
        x.close();
        dueReputations("then", x, 1, 0, 0);
        int[] none = {-1, 3, 4, Integer.MIN_VALUE, Integer.MAX_VALUE};
        for (int player : none) {
            checks.dueIndex("reputation(" + player + ")", () -> x.reputation(player));
        }
    }

    public static void main(String[] args) {
        promise21CountsDebates();
        promise21NextDebate();
        promise21NothingIsLeftOfClaims();
        promise21Reputations();
        promise21OpenAndOut();
        promise21MostAndLeast();
        promise22Reputation();
        checks.end();
    }
}
