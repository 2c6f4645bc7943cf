/**
 * The sentences of 'Terms' on how claims are decided, and promises 15 and 16: each that names a
 * bound has a test of its own. Each state is asked in both ways, by rounds first.
 */
public final class BoundsOfStatesTest {
    private static final int OPEN = Quarrelboard.OPEN;
    private static final int IN = Quarrelboard.IN;
    private static final int OUT = Quarrelboard.OUT;
    private static final int ALL_FACTS = (1 << 14) - 1;
    private static final Checks checks = new Checks();

    private static void due(String what, Quarrelboard x, int claim, int want) {
        checks.due(what + ": stateByRounds(" + claim + ")", x.stateByRounds(claim), want);
        checks.due(what + ": stateOf(" + claim + ")", x.stateOf(claim), want);
    }

    private static void dueAll(String what, Quarrelboard x, int count, int want) {
        for (int claim = 0; claim < count; claim++) {
            due(what, x, claim, want);
        }
    }

    // "All are OPEN": and stay so, if neither rule can be used: rings of 2 to 16 rests
    private static void ringsOfRests() {
        for (int size = 2; size <= 16; size++) {
            Quarrelboard x = Boards.withClaims(size);
            for (int claim = 0; claim < size; claim++) {
                x.rest(claim, (claim + 1) % size);
            }
            dueAll("a ring of rests", x, size, OPEN);
        }
    }

    // the same: rings of 2 to 16 attacks
    private static void ringsOfAttacks() {
        for (int size = 2; size <= 16; size++) {
            Quarrelboard x = Boards.withClaims(size);
            for (int claim = 0; claim < size; claim++) {
                x.attack(claim, (claim + 1) % size);
            }
            dueAll("a ring of attacks", x, size, OPEN);
        }
    }

    // the same: each of 16 rests on all others, or attacks all others, or both
    private static void allOnAll() {
        for (int kinds = 1; kinds <= 3; kinds++) {
            Quarrelboard x = Boards.withClaims(16);
            for (int claim = 0; claim < 16; claim++) {
                for (int other = 0; other < claim; other++) {
                    if ((kinds & 1) != 0) {
                        x.rest(claim, other);
                    }
                    if ((kinds & 2) != 0) {
                        x.attack(claim, other);
                    }
                }
            }
            x.attack(0, 15);
            due("all on all, the first", x, 0, kinds == 1 ? IN : OPEN);
            due("all on all, the last", x, 15, kinds == 1 ? OUT : OPEN);
            due("all on all, the middle", x, 7, kinds == 1 ? IN : OPEN);
        }
    }

    // "A claim is IN if all ..": also if it rests on nothing, and nothing attacks it
    private static void inWithoutAnything() {
        for (int count = 1; count <= 16; count++) {
            Quarrelboard x = Boards.withClaims(count);
            dueAll("claims without anything", x, count, IN);
        }
    }

    // "all facts that it rests on stand": 14 of 14; each one of them that does not makes it OUT
    private static void allFactsStand() {
        for (int fact = 0; fact < 14; fact++) {
            Quarrelboard x = Boards.withFacts(14);
            x.claim(ALL_FACTS, 1);
            x.claim(ALL_FACTS & ~(1 << fact), 1);
            due("14 of 14", x, 0, IN);
            x.withdraw(fact);
            due("13 of 14", x, 0, OUT);
            due("13 of 13", x, 1, IN);
        }
    }

    // "a fact that it rests on does not stand": each source that falls
    private static void aSourceFalls() {
        for (int source = 0; source < 6; source++) {
            Quarrelboard x = Boards.withFacts(6);
            x.claim(63, 1);
            x.claim(63 & ~(1 << source), 1);
            x.toggleSource(source);
            due("one source of six fell", x, 0, OUT);
            due("another one than its five", x, 1, IN);
            x.toggleSource(source);
            due("it stands again", x, 0, IN);
        }
    }

    /** The last of 16 rests on all others. */
    private static Quarrelboard lastOnAllOthers() {
        Quarrelboard x = Boards.withClaims(16);
        for (int other = 0; other < 15; other++) {
            x.rest(15, other);
        }
        return x;
    }

    // "all claims that it rests on are IN": 15 of 15; "or a claim that it rests on is OUT": 1 of 15
    private static void allGroundsIn() {
        for (int one = 0; one < 15; one++) {
            Quarrelboard x = lastOnAllOthers();
            due("15 of 15", x, 15, IN);
            int helper = (one + 1) % 15;
            x.attack(helper, one);
            due("the ground is OUT", x, one, OUT);
            due("14 of 15, one OUT", x, 15, OUT);
        }
    }

    // the same: 13 IN and two OPEN are not all IN, and none of them is OUT
    private static void allButTwoGroundsIn() {
        for (int one = 0; one < 15; one++) {
            Quarrelboard x = lastOnAllOthers();
            int two = (one + 1) % 15;
            x.attack(two, one);
            x.attack(one, two);
            due("the ground is OPEN", x, one, OPEN);
            due("13 of 15, two OPEN", x, 15, OPEN);
            x.rest(15, two);
            due("13 of 14, one OPEN", x, 15, OPEN);
            x.rest(15, one);
            due("13 of 13", x, 15, IN);
        }
    }

    // "all claims that attack it are OUT": 15 of 15; "or a claim that attacks it is IN": 1 of 15
    private static void allAttackersOut() {
        for (int one = 0; one < 15; one++) {
            Quarrelboard x = Boards.withFacts(2);
            x.withdraw(1);
            Boards.addClaims(x, one, 2);
            x.claim(1, 1);
            Boards.addClaims(x, 14 - one, 2);
            x.claim(0, 1);
            for (int other = 0; other < 15; other++) {
                x.attack(other, 15);
            }
            due("the attacker is IN", x, one, IN);
            due("14 of 15 OUT, one IN", x, 15, OUT);
            x.toggleSource(0);
            due("the attacker is OUT", x, one, OUT);
            due("15 of 15 OUT", x, 15, IN);
        }
    }

    // the same: 13 OUT and two OPEN are not all OUT, and none of them is IN
    private static void allButTwoAttackersOut() {
        for (int one = 0; one < 14; one++) {
            Quarrelboard x = Boards.withFacts(1);
            x.withdraw(0);
            for (int claim = 0; claim < 15; claim++) {
                x.claim(claim == one || claim == one + 1 ? 0 : 1, 1);
            }
            x.claim(0, 1);
            for (int other = 0; other < 15; other++) {
                x.attack(other, 15);
            }
            x.attack(one, one + 1);
            x.attack(one + 1, one);
            due("13 of 15 OUT, two OPEN", x, 15, OPEN);
            x.attack(one, 15);
            due("13 of 14 OUT, one OPEN", x, 15, OPEN);
            x.attack(one + 1, 15);
            due("13 of 13 OUT", x, 15, IN);
        }
    }

    // "or": one of three reasons is enough, whatever the two others say; without any it is not OUT
    private static void oneReasonIsEnough() {
        for (int fact = 0; fact < 2; fact++) {
            for (int ground = 0; ground < 3; ground++) {
                for (int attacker = 0; attacker < 3; attacker++) {
                    Quarrelboard x = threeReasons(fact, ground, attacker);
                    boolean out = fact == 1 || ground == OUT || attacker == IN;
                    boolean in = fact == 0 && ground == IN && attacker == OUT;
                    due("fact " + fact + ", ground " + ground + ", attacker " + attacker, x, 4,
                            out ? OUT : in ? IN : OPEN);
                }
            }
        }
    }

    /**
     * The claim 4 rests on the fact 0, which stands, or 1, which does not, and on a claim of the one
     * state, and is attacked by a claim of the other.
     */
    private static Quarrelboard threeReasons(int fact, int ground, int attacker) {
        Quarrelboard x = Boards.withFacts(2);
        x.withdraw(1);
        int[] ofState = {2, 0, 1};
        x.claim(0, 1); // 0: IN
        x.claim(2, 1); // 1: OUT
        x.claim(0, 1); // 2: OPEN
        x.claim(0, 1); // 3: OPEN
        x.attack(2, 3);
        x.attack(3, 2);
        x.claim(1 << fact, 1);
        x.rest(4, ofState[ground]);
        x.attack(ofState[attacker], 4);
        return x;
    }

    /** Where the claims of a row stand: 16 numbers from a start on, in steps that reach all of them. */
    private static int[] row(int start, int step) {
        int[] row = new int[16];
        for (int place = 0; place < 16; place++) {
            row[place] = (start + place * step) % 16;
        }
        return row;
    }

    /** Sixteen claims of which just the one rests on the fact 0, which stands. */
    private static Quarrelboard withFirst(int first) {
        Quarrelboard x = Boards.withFacts(1);
        for (int claim = 0; claim < 16; claim++) {
            x.claim(claim == first ? 1 : 0, 1);
        }
        return x;
    }

    // "these two rules are used as long as one of them can be used": 15 steps from the first on, in
    // many orders; against the order of the numbers it takes a round for each claim
    private static void fifteenStepsOfRests() {
        for (int way = 0; way < 128; way++) {
            int[] row = row(way % 16, way / 16 * 2 + 1);
            Quarrelboard x = withFirst(row[0]);
            for (int place = 0; place < 15; place++) {
                x.rest(row[place + 1], row[place]);
            }
            dueAll("a row of rests", x, 16, IN);
            x.toggleSource(0);
            dueAll("a row of rests that falls", x, 16, OUT);
        }
    }

    // the same, of attacks
    private static void fifteenStepsOfAttacks() {
        for (int way = 0; way < 128; way++) {
            int[] row = row(way % 16, way / 16 * 2 + 1);
            Quarrelboard x = withFirst(row[0]);
            for (int place = 0; place < 15; place++) {
                x.attack(row[place], row[place + 1]);
            }
            for (int place = 0; place < 16; place++) {
                due("a row of attacks", x, row[place], place % 2 == 0 ? IN : OUT);
            }
            x.withdraw(0);
            for (int place = 0; place < 16; place++) {
                due("a row of attacks, turned", x, row[place], place % 2 == 0 ? OUT : IN);
            }
        }
    }

    // the same, of rests and attacks by turns: IN, OUT, OUT, IN, IN, and so on
    private static void fifteenStepsOfBoth() {
        for (int way = 0; way < 128; way++) {
            int[] row = row(way % 16, way / 16 * 2 + 1);
            Quarrelboard x = withFirst(row[0]);
            for (int place = 0; place < 15; place++) {
                if (place % 2 == 0) {
                    x.attack(row[place], row[place + 1]);
                } else {
                    x.rest(row[place + 1], row[place]);
                }
            }
            for (int place = 0; place < 16; place++) {
                due("rests and attacks", x, row[place], (place + 1) / 2 % 2 == 0 ? IN : OUT);
            }
        }
    }

    // the same, of a row that grows: what an earlier question found must not be left
    private static void stepAfterStep() {
        for (int way = 0; way < 128; way++) {
            int[] row = row(way % 16, way / 16 * 2 + 1);
            Quarrelboard x = withFirst(row[0]);
            x.attack(row[14], row[15]);
            x.attack(row[15], row[14]);
            x.withdraw(0);
            for (int place = 0; place < 13; place++) {
                due("not yet", x, row[place + 1], IN);
                x.rest(row[place + 1], row[place]);
                due("the next one", x, row[place + 1], OUT);
                due("the last two", x, row[15], OPEN);
            }
            x.rest(row[14], row[13]);
            due("one of the last two", x, row[14], OUT);
            due("the last one", x, row[15], IN);
        }
    }

    // "whichever it is": the same debate, its claims numbered in each of 24 ways
    private static void whicheverItIs() {
        for (int way = 0; way < 256; way++) {
            int[] number = {way & 3, way >> 2 & 3, way >> 4 & 3, way >> 6 & 3};
            if (!differ(number)) {
                continue;
            }
            Quarrelboard x = Boards.withClaims(6);
            x.attack(number[0], number[1]);
            x.rest(number[2], number[1]);
            x.rest(number[2], number[0]);
            x.attack(number[2], number[3]);
            x.rest(number[3], number[0]);
            x.rest(4, number[3]);
            x.attack(number[1], 5);
            x.attack(5, 4);
            due("it is attacked by none", x, number[0], IN);
            due("it is attacked by that", x, number[1], OUT);
            due("one ground of two is OUT", x, number[2], OUT);
            due("its ground IN, its attacker OUT", x, number[3], IN);
            due("its attacker is OUT", x, 5, IN);
            due("its ground IN, its attacker too", x, 4, OUT);
        }
    }

    private static boolean differ(int[] number) {
        int seen = 0;
        for (int one : number) {
            seen |= 1 << one;
        }
        return seen == 15;
    }

    // "a claim that is IN or OUT stays so": what goes on from it does not come back to it
    private static void staysSo() {
        Quarrelboard x = Boards.withFacts(2);
        x.claim(1, 1);
        x.claim(2, 1);
        x.claim(0, 1);
        x.rest(1, 0);
        x.attack(1, 0);
        due("it waits for what waits for it", x, 0, OPEN);
        due("and the other one", x, 1, OPEN);
        x.withdraw(1);
        due("the other one is OUT by its fact", x, 1, OUT);
        due("so it is IN", x, 0, IN);
        x.attack(0, 2);
        x.attack(2, 1);
        due("a second attack on what is OUT", x, 1, OUT);
        due("by one that is OUT", x, 2, OUT);
        x.toggleSource(0);
        due("now by one that is IN", x, 1, OUT);
        due("which is free", x, 2, IN);
        due("its fact fell", x, 0, OUT);
    }

    // what decides a claim may come from far round: a ring that one claim outside opens
    private static void ringsThatAreOpened() {
        for (int size = 2; size <= 15; size++) {
            Quarrelboard x = Boards.withClaims(size + 1);
            for (int claim = 0; claim < size; claim++) {
                x.attack(claim, (claim + 1) % size);
            }
            x.attack(size, 0);
            due("the one outside", x, size, IN);
            for (int claim = 0; claim < size; claim++) {
                due("a ring of " + size, x, claim, claim % 2 == 0 ? OUT : IN);
            }
        }
    }

    // Promises 15 and 16: "Throws IndexOutOfBoundsException as told": at each number of claims
    private static void noSuchClaim() {
        for (int claims = 0; claims <= 16; claims++) {
            Quarrelboard x = Boards.withClaims(claims);
            int none = claims;
            checks.dueIndex("stateOf, of " + none, () -> x.stateOf(none));
            checks.dueIndex("stateByRounds, of " + none, () -> x.stateByRounds(none));
            checks.dueIndex("stateOf(-1), of " + none, () -> x.stateOf(-1));
            checks.dueIndex("stateByRounds(-1), of " + none, () -> x.stateByRounds(-1));
            if (claims > 0) {
                due("the last", x, claims - 1, IN);
            }
            x.close();
            checks.dueIndex("stateOf(0) of the next debate", () -> x.stateOf(0));
            checks.dueIndex("stateByRounds(0) of the next debate", () -> x.stateByRounds(0));
        }
    }

    // Promise 16: "Returns the same": whichever of the two is asked first, and again
    private static void theSame() {
        Quarrelboard x = Boards.withFacts(2);
        Boards.addClaims(x, 16, 1);
        x.attack(3, 2);
        x.attack(2, 4);
        x.attack(5, 6);
        x.attack(6, 5);
        x.rest(7, 6);
        int[] want = {IN, IN, OUT, IN, IN, OPEN, OPEN, OPEN, IN, IN, IN, IN, IN, IN, IN, IN};
        for (int claim = 0; claim < 16; claim++) {
            checks.due("first", x.stateOf(claim), want[claim]);
            checks.due("then by rounds", x.stateByRounds(claim), want[claim]);
            checks.due("by rounds again", x.stateByRounds(claim), want[claim]);
            checks.due("then again", x.stateOf(claim), want[claim]);
            x.scoreWithout(0, 0);
            checks.due("by rounds, after what would be", x.stateByRounds(claim), want[claim]);
            x.keyFact(0);
            checks.due("after what would be", x.stateOf(claim), want[claim]);
        }
    }

    public static void main(String[] args) {
        ringsOfRests();
        ringsOfAttacks();
        allOnAll();
        inWithoutAnything();
        allFactsStand();
        aSourceFalls();
        allGroundsIn();
        allButTwoGroundsIn();
        allAttackersOut();
        allButTwoAttackersOut();
        oneReasonIsEnough();
        fifteenStepsOfRests();
        fifteenStepsOfAttacks();
        fifteenStepsOfBoth();
        stepAfterStep();
        whicheverItIs();
        staysSo();
        ringsThatAreOpened();
        noSuchClaim();
        theSame();
        checks.end();
    }
}
