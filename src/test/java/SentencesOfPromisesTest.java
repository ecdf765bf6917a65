import java.io.IOException;
import java.util.function.Consumer;
import java.util.function.IntConsumer;

/** Each sentence of the document's promises by a test of its own, at the edges that it names. */
public final class SentencesOfPromisesTest extends Checks {
    private static final int GOOD = SettlementFund.GOOD, FAULTY = SettlementFund.FAULTY;
    private static final int DENIED = SettlementFund.DENIED, OBJECTED = SettlementFund.OBJECTED;
    private static final int OPEN = SettlementFund.OPEN, CASHED = SettlementFund.CASHED, VOID = SettlementFund.VOID;
    private static final int LEAST = Integer.MIN_VALUE, MOST = Integer.MAX_VALUE;
    private static Sentences document;

    public static void main(String[] args) throws IOException {
        document = new Sentences();
        newObject();
        setFund();
        setGrade();
        pass();
        claim();
        cure();
        deny();
        object();
        decide();
        round();
        cash();
        counts();
        claimsAsTheyAre();
        amountsOfClaims();
        count();
        money();
        paymentsAsTheyAre();
        shareOf();
        shareBySorting();
        document.areAllTested("Promise");
        end("each sentence of the promises holds");
    }

    private static void each(int[] values, IntConsumer test) {
        for (int value : values) {
            test.accept(value);
        }
    }

    private static int[] values(int... all) {
        return all;
    }

    private static void newObject() {
        document.section("Promise 1");
        document.holds("Makes an empty fund without claims.", () -> {
            SettlementFund x = new SettlementFund();
            due("claims", x.claims(), 0);
            due("payments", x.payments(), 0);
            due("moneyLeft", x.moneyLeft(), 0);
            for (int person = 0; person < 30; person++) {
                due("claimOf", x.claimOf(person), SettlementFund.NONE);
            }
            for (int state = GOOD; state <= OBJECTED; state++) {
                due("count", x.count(state), 0);
            }
            dueThrows("stateOf", INDEX, () -> x.stateOf(0));
            dueThrows("paymentState", INDEX, () -> x.paymentState(0));
            dueThrows("round", STATE, () -> x.round(0));
            fundOf(1000, 24).round(0);
            due("claims of another", new SettlementFund().claims(), 0);
        });
    }

    private static void setFund() {
        document.section("Promise 2");
        document.holds("Sets sum, fee and expenses of the fund.", () -> {
            SettlementFund x = new SettlementFund();
            x.setFund(1000, 100, 50);
            due("fee", x.fee(), 100);
            due("moneyLeft", x.moneyLeft(), 850);
            x.setFund(2000, 0, 0);
            due("fee set again", x.fee(), 0);
            due("moneyLeft set again", x.moneyLeft(), 2000);
        });
        document.holds("`sum`: 0 to 10000000", () -> {
            each(values(0, 1, 9999999, 10000000), sum -> due("setFund", new SettlementFund().setFund(sum, 0, 0), sum));
            each(values(-1, 10000001, LEAST, MOST), sum ->
                dueThrows("sum " + sum, ARGUMENT, () -> new SettlementFund().setFund(sum, 0, 0)));
        });
        document.holds("`fee`: 0 to 500: in thousandths", () -> {
            each(values(0, 1, 499, 500), fee -> due("setFund", new SettlementFund().setFund(1000, fee, 0), 1000 - fee));
            each(values(-1, 501, LEAST, MOST), fee ->
                dueThrows("fee " + fee, ARGUMENT, () -> new SettlementFund().setFund(0, fee, 0)));
        });
        document.holds("`expenses`: 0 to 1000000", () -> {
            each(values(0, 1, 999999, 1000000), spent -> due("setFund", new SettlementFund().setFund(0, 0, spent), -spent));
            each(values(-1, 1000001, LEAST, MOST), spent ->
                dueThrows("expenses " + spent, ARGUMENT, () -> new SettlementFund().setFund(0, 0, spent)));
        });
        document.holds("Returns the money left then; below 0 if the expenses and payments are more than there is.", () -> {
            SettlementFund x = new SettlementFund();
            due("1 more than there is", x.setFund(10, 100, 10), -1);
            due("as much as there is", x.setFund(10, 100, 9), 0);
            due("1 less than there is", x.setFund(10, 100, 8), 1);
            due("the least", x.setFund(0, 500, 1000000), -1000000);
            due("the most", x.setFund(10000000, 0, 0), 10000000);
        });
        document.holds("Throws `IllegalArgumentException` if sum, fee or expenses is out of range", () -> {
            dueRefused(() -> fundOf(100, 2), "sum", ARGUMENT, x -> x.setFund(10000001, 1, 1));
            dueRefused(() -> fundOf(100, 2), "fee", ARGUMENT, x -> x.setFund(1, 501, 1));
            dueRefused(() -> fundOf(100, 2), "expenses", ARGUMENT, x -> x.setFund(1, 1, 1000001));
            dueRefused(Checks::fundOfEachPayment, "sum with payments", ARGUMENT, x -> x.setFund(-1, 0, 0));
        });
        document.holds("Throws `IllegalStateException` if there are payments", () -> {
            dueRefused(Checks::fundOfEachPayment, "payments of all states", STATE, x -> x.setFund(7, 1, 1));
            SettlementFund x = fundOf(10, 1);
            x.round(100);
            due("after a round of no payments", x.setFund(20, 0, 0), 20);
            x.round(0);
            dueThrows("with an OPEN one", STATE, () -> x.setFund(20, 0, 0));
            x.pass(31);
            dueThrows("with a VOID one", STATE, () -> x.setFund(20, 0, 0));
            SettlementFund cashed = fundOf(10, 1);
            cashed.round(0);
            cashed.cash(0);
            dueThrows("with a CASHED one", STATE, () -> cashed.setFund(20, 0, 0));
        });
    }

    private static void setGrade() {
        document.section("Promise 3");
        document.holds("Sets points and cap of a grade.", () -> {
            SettlementFund x = fundOfGrades(100, 1, 1000, 1, 1000);
            x.setGrade(1, 3, 80);
            dueShares(x, 0, 25, 75);
            due("room", x.room(1), 80);
            due("room of another grade", x.room(0), 1000);
            x.setGrade(1, 4, 70);
            dueShares(x, 0, 30, 70);
        });
        document.holds("`grade`: 0 to 4", () -> {
            each(values(0, 1, 2, 3, 4), grade -> {
                SettlementFund x = new SettlementFund();
                x.setGrade(grade, 1, 7);
                for (int other = 0; other < 5; other++) {
                    x.claim(other, other, false, 0);
                    due("room", x.room(other), other == grade ? 7 : 1000000);
                }
            });
            each(values(-1, 5, LEAST, MOST), grade ->
                dueThrows("grade " + grade, INDEX, () -> new SettlementFund().setGrade(grade, 1, 1)));
        });
        document.holds("`points`: 1 to 100", () -> {
            dueShares(fundOfGrades(1010, 1, 1000000, 100, 1000000), 0, 10, 1000);
            dueShares(fundOfGrades(1010, 2, 1000000, 99, 1000000), 0, 20, 990);
            each(values(0, 101, -1, LEAST, MOST), points ->
                dueThrows("points " + points, ARGUMENT, () -> new SettlementFund().setGrade(0, points, 1)));
        });
        document.holds("`cap`: 1 to 1000000", () -> {
            each(values(1, 2, 999999, 1000000), cap -> {
                due("room", fundOfGrades(0, 1, cap).room(0), cap);
                due("shareOf", fundOfGrades(10000000, 100, cap).shareOf(0, 0), cap);
            });
            each(values(0, 1000001, -1, LEAST, MOST), cap ->
                dueThrows("cap " + cap, ARGUMENT, () -> new SettlementFund().setGrade(0, 1, cap)));
        });
        document.holds("Throws `IndexOutOfBoundsException` if there is no such grade", () -> {
            dueRefused(() -> fundOf(100, 2), "grade 5", INDEX, x -> x.setGrade(5, 2, 2));
            dueRefused(() -> fundOf(100, 2), "grade -1, points and cap 0", INDEX, x -> x.setGrade(-1, 0, 0));
            dueRefused(Checks::fundOfEachPayment, "grade 5 with payments", INDEX, x -> x.setGrade(5, 2, 2));
        });
        document.holds("Throws `IllegalArgumentException` if points or cap is out of range", () -> {
            dueRefused(() -> fundOf(100, 2), "points 0", ARGUMENT, x -> x.setGrade(0, 0, 2));
            dueRefused(() -> fundOf(100, 2), "points 101", ARGUMENT, x -> x.setGrade(0, 101, 2));
            dueRefused(() -> fundOf(100, 2), "cap 0", ARGUMENT, x -> x.setGrade(0, 2, 0));
            dueRefused(() -> fundOf(100, 2), "cap 1000001", ARGUMENT, x -> x.setGrade(0, 2, 1000001));
            dueRefused(Checks::fundOfEachPayment, "cap 0 with payments", ARGUMENT, x -> x.setGrade(0, 2, 0));
        });
        document.holds("Throws `IllegalStateException` if there are payments", () -> {
            dueRefused(Checks::fundOfEachPayment, "with payments", STATE, x -> x.setGrade(0, 2, 60));
            SettlementFund x = fundOf(10, 1);
            x.round(100);
            x.setGrade(0, 2, 60);
            due("room after a round of no payments", x.room(0), 60);
            x.round(0);
            dueThrows("of a grade that nobody has", STATE, () -> x.setGrade(4, 2, 60));
        });
    }

    private static void pass() {
        document.section("Promise 4");
        document.holds("Lets days pass.", () -> {
            dueSame("pass", () -> passed(31, 1), () -> passed(1, 31));
            dueSame("pass", () -> passed(100, 2), () -> passed(1, 200));
            SettlementFund x = passed(31, 1);
            due("today", x.today(), 31);
            due("the first payment", x.paymentState(0), VOID);
            due("the CASHED one", x.paymentState(1), CASHED);
            dueStates(x, GOOD, GOOD, DENIED, FAULTY);
        });
        document.holds("`days`: 1 to 200", () -> {
            each(values(1, 2, 199, 200), days -> due("pass", new SettlementFund().pass(days), days));
            each(values(0, 201, -1, LEAST, MOST), days ->
                dueThrows("days " + days, ARGUMENT, () -> new SettlementFund().pass(days)));
        });
        document.holds("Returns today then.", () -> {
            SettlementFund x = new SettlementFund();
            due("pass", x.pass(200), 200);
            due("pass", x.pass(1), 201);
            due("today", x.today(), 201);
        });
        document.holds("Throws `IllegalArgumentException` if days is out of range", () -> {
            dueRefused(Checks::fundOfEachState, "days 0", ARGUMENT, x -> x.pass(0));
            dueRefused(Checks::fundOfEachPayment, "days 201", ARGUMENT, x -> x.pass(201));
        });
    }

    /** So many days, so many times. */
    private static SettlementFund passed(int days, int times) {
        SettlementFund x = fundOf(20, 2);
        x.round(0);
        x.cash(1);
        x.claim(2, 0, true, 30);
        x.claim(3, 0, true, 31);
        for (int time = 0; time < times; time++) {
            x.pass(days);
        }
        return x;
    }

    private static void claim() {
        document.section("Promise 5");
        document.holds("Enters a claim, or joins it to the one that the person has.", () -> {
            SettlementFund x = new SettlementFund();
            due("the first", x.claim(9, 1, true, 8), 0);
            due("of another", x.claim(8, 2, false, 0), 1);
            due("joined", x.claim(9, 3, true, 50), 0);
            due("claims", x.claims(), 2);
            due("gradeOf", x.gradeOf(0), 3);
            due("cure", x.cure(0), 8);
        });
        document.holds("`person`: 0 to 29", () -> {
            each(values(0, 1, 28, 29), person -> {
                SettlementFund x = new SettlementFund();
                due("claim", x.claim(person, 0, false, 0), 0);
                due("claimOf", x.claimOf(person), 0);
            });
            each(values(-1, 30, LEAST, MOST), person ->
                dueThrows("person " + person, INDEX, () -> new SettlementFund().claim(person, 0, false, 0)));
        });
        document.holds("`grade`: 0 to 4", () -> {
            each(values(0, 1, 2, 3, 4), grade -> {
                SettlementFund x = new SettlementFund();
                x.claim(0, grade, true, 0);
                due("gradeOf", x.gradeOf(0), grade);
            });
            each(values(-1, 5, LEAST, MOST), grade ->
                dueThrows("grade " + grade, INDEX, () -> new SettlementFund().claim(0, grade, false, 0)));
        });
        document.holds("`isFault`: whether it has a fault", () -> {
            SettlementFund x = new SettlementFund();
            x.claim(0, 0, false, 3);
            x.claim(1, 0, true, 3);
            dueStates(x, GOOD, FAULTY);
            x.claim(0, 0, true, 3);
            x.claim(1, 0, false, 3);
            dueStates(x, GOOD, GOOD);
        });
        document.holds("`days`: 0 to 100: for a fault of a new claim, how many days from today on the deadline is", () -> {
            each(values(0, 1, 99, 100), days -> {
                SettlementFund x = new SettlementFund();
                x.pass(7);
                x.claim(0, 0, true, days);
                x.claim(1, 0, true, days);
                due("cure", x.cure(1), days);
                if (days > 0) {
                    x.pass(days);
                }
                due("on the deadline", x.stateOf(0), FAULTY);
                x.pass(1);
                due("a day later", x.stateOf(0), DENIED);
            });
            each(values(-1, 101, LEAST, MOST), days ->
                dueThrows("days " + days, ARGUMENT, () -> new SettlementFund().claim(0, 0, true, days)));
        });
        document.holds("Returns the number of the claim.", () -> {
            SettlementFund x = new SettlementFund();
            for (int claim = 0; claim < 24; claim++) {
                due("claim", x.claim(29 - claim, 0, claim % 2 == 0, 100), claim);
            }
            for (int claim = 23; claim >= 0; claim--) {
                due("claim again", x.claim(29 - claim, 4, true, 0), claim);
            }
        });
        document.holds("Throws `IndexOutOfBoundsException` if there is no such person or grade", () -> {
            dueRefused(Checks::fundOfEachState, "person 30", INDEX, x -> x.claim(30, 0, false, 0));
            dueRefused(Checks::fundOfEachState, "person -1, days -1", INDEX, x -> x.claim(-1, 0, false, -1));
            dueRefused(Checks::fundOfEachState, "grade 5 of a new claim", INDEX, x -> x.claim(7, 5, false, 0));
            dueRefused(Checks::fundOfEachState, "grade -1, joined, days 101", INDEX, x -> x.claim(1, -1, false, 101));
            dueRefused(() -> fundOf(100, 24), "person 30 when full", INDEX, x -> x.claim(30, 0, false, 0));
            dueRefused(() -> fundOf(100, 24), "grade 5 when full", INDEX, x -> x.claim(24, 5, false, 0));
        });
        document.holds("Throws `IllegalArgumentException` if days is out of range", () -> {
            dueRefused(Checks::fundOfEachState, "days -1", ARGUMENT, x -> x.claim(7, 0, true, -1));
            dueRefused(Checks::fundOfEachState, "days 101", ARGUMENT, x -> x.claim(7, 0, true, 101));
            dueRefused(Checks::fundOfEachState, "days 101 without fault", ARGUMENT, x -> x.claim(7, 0, false, 101));
            dueRefused(Checks::fundOfEachState, "days -1, joined", ARGUMENT, x -> x.claim(1, 4, false, -1));
            dueRefused(() -> fundOf(100, 24), "days 101 when full", ARGUMENT, x -> x.claim(24, 0, false, 101));
        });
        document.holds("Throws `IllegalStateException` if the person has no claim, and there are 24", () -> {
            dueRefused(() -> fundOf(100, 24), "the 25th", STATE, x -> x.claim(24, 0, false, 0));
            dueRefused(() -> fundOf(100, 24), "the 25th, with a fault", STATE, x -> x.claim(29, 4, true, 100));
            due("the 24th", fundOf(100, 23).claim(29, 0, false, 0), 23);
            SettlementFund full = fundOf(100, 24);
            due("joined when full", full.claim(23, 4, false, 0), 23);
            due("gradeOf", full.gradeOf(23), 4);
            full.deny(0);
            dueThrows("the 25th, when one is DENIED", STATE, () -> full.claim(24, 0, false, 0));
        });
    }

    private static void dueNoSuchClaim(IntConsumer call) {
        each(values(-1, 4, 24, LEAST, MOST), claim -> dueThrows("of claim " + claim, INDEX, () -> call.accept(claim)));
    }

    private static void dueNoSuchPayment(IntConsumer call) {
        each(values(-1, 3, 100, LEAST, MOST), payment -> dueThrows("of payment " + payment, INDEX, () -> call.accept(payment)));
    }

    private static void cure() {
        document.section("Promise 6");
        document.holds("Cures the fault of a claim, which is GOOD then.", () -> {
            SettlementFund x = fundOfEachState();
            x.cure(1);
            dueStates(x, GOOD, GOOD, DENIED, OBJECTED);
            x.pass(200);
            dueStates(x, GOOD, GOOD, DENIED, OBJECTED);
        });
        document.holds("`claim`: its number", () -> {
            SettlementFund x = new SettlementFund();
            for (int person = 0; person < 24; person++) {
                x.claim(person, 0, true, person);
            }
            due("the last", x.cure(23), 23);
            due("the first", x.cure(0), 0);
            due("count", x.count(FAULTY), 22);
        });
        document.holds("Returns how many days were left to the deadline.", () -> each(values(0, 1, 4, 5), days -> {
            SettlementFund x = fundOfEachState();
            if (days > 0) {
                x.pass(days);
            }
            due("cure", x.cure(1), 5 - days);
        }));
        document.holds("Throws `IndexOutOfBoundsException` if there is no such claim", () -> {
            dueNoSuchClaim(claim -> fundOfEachState().cure(claim));
            dueRefused(Checks::fundOfEachState, "claim 4", INDEX, x -> x.cure(4));
        });
        document.holds("Throws `IllegalStateException` if it is not FAULTY", () -> {
            each(values(0, 2, 3), claim -> dueRefused(Checks::fundOfEachState, "cure", STATE, x -> x.cure(claim)));
            SettlementFund x = fundOfEachState();
            x.pass(6);
            dueThrows("cure a day too late", STATE, () -> x.cure(1));
        });
    }

    private static void deny() {
        document.section("Promise 7");
        document.holds("Denies a claim that is GOOD or FAULTY.", () -> {
            SettlementFund x = fundOfEachState();
            x.deny(0);
            dueStates(x, DENIED, FAULTY, DENIED, OBJECTED);
            x.deny(1);
            dueStates(x, DENIED, DENIED, DENIED, OBJECTED);
        });
        document.holds("`claim`: its number", () -> {
            SettlementFund x = fundOf(0, 24);
            x.deny(23);
            due("stateOf the last", x.stateOf(23), DENIED);
            x.deny(0);
            due("stateOf the first", x.stateOf(0), DENIED);
            due("count", x.count(GOOD), 22);
        });
        document.holds("Returns its state before.", () -> {
            SettlementFund x = fundOfEachState();
            due("deny a FAULTY one", x.deny(1), FAULTY);
            due("deny a GOOD one", x.deny(0), GOOD);
        });
        document.holds("Throws `IndexOutOfBoundsException` if there is no such claim", () -> {
            dueNoSuchClaim(claim -> fundOfEachState().deny(claim));
            dueRefused(Checks::fundOfEachState, "claim 4", INDEX, x -> x.deny(4));
        });
        document.holds("Throws `IllegalStateException` if it is neither", () ->
            each(values(2, 3), claim -> dueRefused(Checks::fundOfEachState, "deny", STATE, x -> x.deny(claim))));
    }

    private static void object() {
        document.section("Promise 8");
        document.holds("Objects to the denial of a claim, which is OBJECTED then.", () -> {
            SettlementFund x = fundOfEachState();
            x.object(2);
            dueStates(x, GOOD, FAULTY, OBJECTED, OBJECTED);
            x.pass(6);
            x.object(1);
            dueStates(x, GOOD, OBJECTED, OBJECTED, OBJECTED);
        });
        document.holds("That can be done once for a claim.", () -> {
            SettlementFund x = fundOfEachState();
            x.decide(3, false);
            dueThrows("after it was denied again", STATE, () -> x.object(3));
            x.claim(3, 0, false, 0);
            x.deny(3);
            dueThrows("after it was joined", STATE, () -> x.object(3));
            x.object(2);
            x.decide(2, true);
            x.deny(2);
            dueThrows("after it was GOOD", STATE, () -> x.object(2));
            x.deny(0);
            due("the first one of another", x.object(0), 1);
        });
        document.holds("`claim`: its number", () -> {
            SettlementFund x = fundOf(0, 24);
            x.deny(0);
            x.deny(23);
            x.object(23);
            due("stateOf the last", x.stateOf(23), OBJECTED);
            due("stateOf the first", x.stateOf(0), DENIED);
        });
        document.holds("Returns how many claims are OBJECTED then.", () -> {
            SettlementFund x = fundOf(0, 24);
            for (int claim = 0; claim < 24; claim++) {
                x.deny(claim);
                due("object", x.object(claim), claim + 1);
            }
        });
        document.holds("Throws `IndexOutOfBoundsException` if there is no such claim", () -> {
            dueNoSuchClaim(claim -> fundOfEachState().object(claim));
            dueRefused(Checks::fundOfEachState, "claim 4", INDEX, x -> x.object(4));
        });
        document.holds("Throws `IllegalStateException` if it is not DENIED, or it was objected to before", () -> {
            each(values(0, 1, 3), claim -> dueRefused(Checks::fundOfEachState, "object", STATE, x -> x.object(claim)));
            dueRefused(() -> fundOfDecided(false), "objected to before", STATE, x -> x.object(3));
        });
    }

    private static SettlementFund fundOfDecided(boolean isGood) {
        SettlementFund x = fundOfEachState();
        x.decide(3, isGood);
        return x;
    }

    private static void decide() {
        document.section("Promise 9");
        document.holds("Decides an objection: the claim is GOOD then, or DENIED.", () -> {
            dueStates(fundOfDecided(true), GOOD, FAULTY, DENIED, GOOD);
            dueStates(fundOfDecided(false), GOOD, FAULTY, DENIED, DENIED);
        });
        document.holds("`claim`: its number", () -> {
            SettlementFund x = fundOf(0, 24);
            each(values(0, 23), claim -> {
                x.deny(claim);
                x.object(claim);
            });
            x.decide(23, true);
            due("stateOf the last", x.stateOf(23), GOOD);
            due("stateOf the first", x.stateOf(0), OBJECTED);
        });
        document.holds("`isGood`: whether it is GOOD", () -> {
            due("GOOD", fundOfDecided(true).stateOf(3), GOOD);
            due("not GOOD", fundOfDecided(false).stateOf(3), DENIED);
        });
        document.holds("Returns how many claims are OBJECTED then.", () -> {
            SettlementFund x = fundOfEachState();
            x.object(2);
            due("decide", x.decide(3, true), 1);
            due("decide the last", x.decide(2, false), 0);
        });
        document.holds("Throws `IndexOutOfBoundsException` if there is no such claim", () -> {
            dueNoSuchClaim(claim -> fundOfEachState().decide(claim, true));
            dueRefused(Checks::fundOfEachState, "claim 4", INDEX, x -> x.decide(4, false));
        });
        document.holds("Throws `IllegalStateException` if it is not OBJECTED", () -> {
            each(values(0, 1, 2), claim -> {
                dueRefused(Checks::fundOfEachState, "decide", STATE, x -> x.decide(claim, true));
                dueRefused(Checks::fundOfEachState, "decide", STATE, x -> x.decide(claim, false));
            });
            dueRefused(() -> fundOfDecided(true), "decided already", STATE, x -> x.decide(3, false));
        });
    }

    private static void round() {
        document.section("Promise 10");
        document.holds("Makes a round: a payment for each claim that gets something, by rising numbers of claims.", () -> {
            SettlementFund x = fundOfGrades(100, 1, 10, 2, 1000, 3, 20, 4, 1000);
            x.deny(1);
            x.round(0);
            duePayments(x, 0, 10, 2, 20, 3, 70);
            SettlementFund few = fundOf(2, 4);
            few.round(0);
            duePayments(few, 0, 1, 1, 1);
            SettlementFund backwards = new SettlementFund();
            backwards.setFund(3, 0, 0);
            each(values(29, 7, 0), person -> backwards.claim(person, 0, false, 0));
            backwards.round(0);
            duePayments(backwards, 0, 1, 1, 1, 2, 1);
            cashAll(x, 0, 3);
            due("moneyLeft", x.moneyLeft(), 0);
        });
        document.holds("`least`: 0 to 100000: the least sum", () -> {
            due("round(0)", fundOf(3, 2).round(0), 2);
            due("round(1)", fundOf(3, 2).round(1), 2);
            due("round(2)", fundOf(3, 2).round(2), 1);
            due("round(99999)", fundOf(199999, 2).round(99999), 2);
            due("round(100000)", fundOf(199999, 2).round(100000), 1);
            due("round(100000)", fundOf(200000, 2).round(100000), 2);
            each(values(-1, 100001, LEAST, MOST), least ->
                dueThrows("least " + least, ARGUMENT, () -> fundOf(3, 2).round(least)));
        });
        document.holds("Returns how many payments it makes.", () -> {
            due("of 24 claims", fundOf(10000000, 24).round(0), 24);
            due("of 1 claim", fundOf(1, 24).round(0), 1);
            due("of no claim", fundOf(1, 0).round(0), 0);
            due("of none that takes part", fundOf(9, 2).round(10), 0);
            SettlementFund x = fundOfGrades(30, 1, 10);
            due("first", x.round(0), 1);
            x.cash(0);
            due("of none that has room", x.round(0), 0);
            due("payments", x.payments(), 1);
        });
        document.holds("Throws `IllegalArgumentException` if least is out of range", () -> {
            dueRefused(() -> fundOf(10, 2), "least -1", ARGUMENT, x -> x.round(-1));
            dueRefused(() -> fundOf(10, 2), "least 100001", ARGUMENT, x -> x.round(100001));
            dueRefused(Checks::fundOfEachState, "least -1 with a FAULTY one", ARGUMENT, x -> x.round(-1));
            dueRefused(Checks::fundOfEachPayment, "least 100001 with an OPEN one", ARGUMENT, x -> x.round(100001));
            dueRefused(() -> fundOf(0, 2), "least -1 without money", ARGUMENT, x -> x.round(-1));
        });
        document.holds("Throws `IllegalStateException` if some claim is FAULTY or OBJECTED, some payment is OPEN, the money left is "
            + "below 1, or there would be more than 100 payments", () -> {
            dueRefused(SentencesOfPromisesTest::fundOfFaultyLast, "with a FAULTY one", STATE, x -> x.round(0));
            dueRefused(SentencesOfPromisesTest::fundOfObjectedLast, "with an OBJECTED one", STATE, x -> x.round(0));
            dueRefused(SentencesOfPromisesTest::fundOfOpenLast, "with an OPEN one", STATE, x -> x.round(0));
            dueRefused(() -> fundOf(0, 2), "without money", STATE, x -> x.round(0));
            dueRefused(SentencesOfPromisesTest::fundOfDebt, "with money below 0", STATE, x -> x.round(0));
            dueRefused(() -> fundOf(0, 0), "without money, nobody", STATE, x -> x.round(0));
            dueRefused(() -> fundOf90Payments(11), "101 payments", STATE, x -> x.round(0));
            dueRefused(() -> fundOf90Payments(20), "110 payments", STATE, x -> x.round(0));
            dueRefused(SentencesOfPromisesTest::fundOfOpenFirst, "with the first one OPEN", STATE, x -> x.round(0));
            due("with a DENIED one", roundAfter(x -> x.deny(0)), 1);
            due("with money of 1", fundOf(1, 2).round(0), 1);
            due("100 payments", fundOf90Payments(10).round(0), 10);
            due("no more than 90 payments", fundOf90Payments(20).round(100), 0);
        });
        roundsAtTheLimit();
    }

    /** At 100 payments a round that makes none is no more than 100. */
    private static void roundsAtTheLimit() {
        SettlementFund x = fundOf90Payments(10);
        x.round(0);
        cashAll(x, 90, 99);
        x.pass(31);
        due("payments", x.payments(), 100);
        due("moneyLeft", x.moneyLeft(), 3);
        due("round of none at 100 payments", x.round(100), 0);
        dueThrows("round of one more", STATE, () -> x.round(3));
        due("shareOf, though no round can be made", x.shareOf(0, 3), 3);
    }

    private static int roundAfter(Consumer<SettlementFund> call) {
        SettlementFund x = fundOf(10, 2);
        call.accept(x);
        return x.round(0);
    }

    private static SettlementFund fundOfFaultyLast() {
        SettlementFund x = fundOf(10, 23);
        x.claim(23, 0, true, 0);
        return x;
    }

    private static SettlementFund fundOfObjectedLast() {
        SettlementFund x = fundOf(10, 24);
        x.deny(23);
        x.object(23);
        return x;
    }

    private static SettlementFund fundOfOpenLast() {
        SettlementFund x = fundOfGrades(100, 1, 10, 1, 10);
        x.round(0);
        x.cash(0);
        x.claim(2, 0, false, 0);
        x.pass(30);
        return x;
    }

    private static SettlementFund fundOfOpenFirst() {
        SettlementFund x = fundOfGrades(100, 1, 10, 1, 10);
        x.round(0);
        x.cash(1);
        x.claim(2, 0, false, 0);
        return x;
    }

    private static SettlementFund fundOfDebt() {
        SettlementFund x = fundOf(0, 2);
        x.setFund(9, 0, 1000000);
        return x;
    }

    private static void cash() {
        document.section("Promise 11");
        document.holds("Cashes a payment.", () -> {
            SettlementFund x = fundOfEachPayment();
            x.cash(2);
            due("paymentState", x.paymentState(2), CASHED);
            x.pass(200);
            due("paymentState for good", x.paymentState(2), CASHED);
            SettlementFund late = fundOf(10, 2);
            late.round(0);
            late.pass(30);
            late.cash(1);
            due("cashed after 30 days", late.paymentState(1), CASHED);
            due("the other one", late.paymentState(0), OPEN);
        });
        document.holds("`payment`: its number", () -> {
            SettlementFund x = fundOf90Payments(10);
            x.round(0);
            due("the last that can be", x.cash(99), 3);
            due("paymentState", x.paymentState(99), CASHED);
            due("paymentState of the one before", x.paymentState(98), OPEN);
        });
        document.holds("Returns its amount.", () -> {
            SettlementFund x = fundOfGrades(100, 1, 1000, 3, 1000);
            x.round(0);
            due("cash(1)", x.cash(1), 75);
            due("cash(0)", x.cash(0), 25);
        });
        document.holds("Throws `IndexOutOfBoundsException` if there is no such payment", () -> {
            dueNoSuchPayment(payment -> fundOfEachPayment().cash(payment));
            dueRefused(Checks::fundOfEachPayment, "payment 3", INDEX, x -> x.cash(3));
            dueThrows("the first of none", INDEX, () -> fundOf(10, 2).cash(0));
        });
        document.holds("Throws `IllegalStateException` if it is not OPEN", () -> {
            dueRefused(Checks::fundOfEachPayment, "a CASHED one", STATE, x -> x.cash(0));
            dueRefused(Checks::fundOfEachPayment, "a VOID one", STATE, x -> x.cash(1));
        });
    }

    private static void counts() {
        document.section("Promise 12");
        document.holds("Returns today.", () -> {
            SettlementFund x = new SettlementFund();
            due("today at first", x.today(), 0);
            x.pass(1);
            x.pass(200);
            due("today", x.today(), 201);
        });
        document.section("Promise 13");
        document.holds("Returns how many claims there are.", () -> {
            due("at first", new SettlementFund().claims(), 0);
            due("of any state", fundOfEachState().claims(), 4);
            due("full", fundOf(0, 24).claims(), 24);
            SettlementFund x = fundOf(0, 2);
            x.claim(1, 1, true, 0);
            due("after joining", x.claims(), 2);
        });
        document.section("Promise 22");
        document.holds("Returns how many payments there are.", () -> {
            due("at first", fundOf(10, 1).payments(), 0);
            due("of any state", fundOfEachPayment().payments(), 3);
            due("many", fundOf90Payments(1).payments(), 90);
        });
    }

    private static void claimsAsTheyAre() {
        document.section("Promise 14");
        document.holds("Returns the claim of a person.", () -> {
            SettlementFund x = new SettlementFund();
            x.claim(5, 0, false, 0);
            x.claim(3, 0, true, 0);
            due("claimOf", x.claimOf(5), 0);
            due("claimOf", x.claimOf(3), 1);
        });
        document.holds("`person`: 0 to 29", () -> {
            each(values(0, 1, 28, 29), person -> due("claimOf", new SettlementFund().claimOf(person), SettlementFund.NONE));
            each(values(-1, 30, LEAST, MOST), person ->
                dueThrows("person " + person, INDEX, () -> new SettlementFund().claimOf(person)));
        });
        document.holds("Returns its number; NONE if the person has none.", () -> {
            SettlementFund x = new SettlementFund();
            x.claim(29, 0, false, 0);
            x.claim(0, 0, false, 0);
            due("claimOf the last", x.claimOf(29), 0);
            due("claimOf the first", x.claimOf(0), 1);
            due("claimOf others", x.claimOf(1), SettlementFund.NONE);
            due("claimOf others", x.claimOf(28), SettlementFund.NONE);
        });
        document.holds("Throws `IndexOutOfBoundsException` if there is no such person", () -> {
            dueRefused(Checks::fundOfEachState, "person 30", INDEX, x -> x.claimOf(30));
            dueRefused(Checks::fundOfEachState, "person -1", INDEX, x -> x.claimOf(-1));
        });
        document.section("Promise 15");
        document.holds("Returns the state of a claim.", () -> {
            SettlementFund x = fundOfEachState();
            x.claim(2, 0, false, 0);
            x.decide(3, false);
            x.pass(5);
            dueStates(x, GOOD, FAULTY, GOOD, DENIED);
            x.pass(1);
            dueStates(x, GOOD, DENIED, GOOD, DENIED);
        });
        document.holds("`claim`: its number", () -> {
            SettlementFund x = fundOf(0, 24);
            x.deny(23);
            due("the first", x.stateOf(0), GOOD);
            due("the last", x.stateOf(23), DENIED);
        });
        document.holds("Returns GOOD to OBJECTED.", () -> dueStates(fundOfEachState(), GOOD, FAULTY, DENIED, OBJECTED));
        document.holds("Throws `IndexOutOfBoundsException` if there is no such claim", () -> {
            dueNoSuchClaim(claim -> fundOfEachState().stateOf(claim));
            dueThrows("the first of none", INDEX, () -> new SettlementFund().stateOf(0));
        });
        document.section("Promise 16");
        document.holds("Returns the grade of a claim.", () -> {
            SettlementFund x = new SettlementFund();
            x.claim(9, 3, false, 0);
            due("gradeOf", x.gradeOf(0), 3);
            x.claim(9, 2, false, 0);
            due("gradeOf after a lower one", x.gradeOf(0), 3);
            x.claim(9, 4, true, 0);
            due("gradeOf after a greater one", x.gradeOf(0), 4);
        });
        document.holds("`claim`: its number", () -> {
            SettlementFund x = fundOf(0, 23);
            x.claim(29, 4, false, 0);
            due("the first", x.gradeOf(0), 0);
            due("the last", x.gradeOf(23), 4);
        });
        document.holds("Returns 0 to 4.", () -> each(values(0, 1, 2, 3, 4), grade ->
            due("gradeOf", fundOfGrades(0, 1, 1, 1, 1, 1, 1, 1, 1, 1, 1).gradeOf(grade), grade)));
        document.holds("Throws `IndexOutOfBoundsException` if there is no such claim", () ->
            dueNoSuchClaim(claim -> fundOfEachState().gradeOf(claim)));
    }

    private static void amountsOfClaims() {
        document.section("Promise 17");
        document.holds("Returns the room of a claim.", () -> {
            SettlementFund x = fundOfEachState();
            x.setGrade(1, 1, 7);
            x.setGrade(2, 1, 8);
            x.setGrade(3, 1, 9);
            due("of a GOOD one", x.room(0), 1000000);
            due("of a FAULTY one", x.room(1), 7);
            due("of a DENIED one", x.room(2), 8);
            due("of an OBJECTED one", x.room(3), 9);
        });
        document.holds("`claim`: its number", () -> {
            SettlementFund x = fundOf(0, 23);
            x.setGrade(4, 1, 1);
            x.claim(29, 4, false, 0);
            due("the first", x.room(0), 1000000);
            due("the last", x.room(23), 1);
        });
        document.holds("Returns the room.", () -> {
            SettlementFund x = fundOfGrades(20, 1, 10, 1, 11);
            x.round(0);
            due("of a full one", x.room(0), 0);
            due("of another", x.room(1), 1);
            x.pass(31);
            due("when payments are VOID", x.room(0), 10);
        });
        document.holds("Throws `IndexOutOfBoundsException` if there is no such claim", () ->
            dueNoSuchClaim(claim -> fundOfEachState().room(claim)));
        document.section("Promise 18");
        document.holds("Returns all payments of a claim that are not VOID, together.", () -> {
            SettlementFund x = fundOf(100, 3);
            x.round(0);
            due("an OPEN one", x.paidTo(0), 34);
            cashAll(x, 0, 2);
            due("a CASHED one", x.paidTo(1), 33);
            x.pass(31);
            due("a VOID one", x.paidTo(2), 0);
            x.round(0);
            due("a CASHED and an OPEN one", x.paidTo(0), 51);
            x.cash(4);
            due("two CASHED ones", x.paidTo(1), 49);
            x.pass(31);
            due("a CASHED and a VOID one", x.paidTo(0), 34);
        });
        document.holds("`claim`: its number", () -> {
            SettlementFund x = fundOf(25, 24);
            x.round(0);
            due("the first", x.paidTo(0), 2);
            due("the last", x.paidTo(23), 1);
        });
        document.holds("Returns the sum.", () -> {
            due("of no payments", fundOf(100, 1).paidTo(0), 0);
            SettlementFund x = fundOf(10000000, 1);
            x.round(0);
            due("the most", x.paidTo(0), 1000000);
        });
        document.holds("Throws `IndexOutOfBoundsException` if there is no such claim", () ->
            dueNoSuchClaim(claim -> fundOfEachState().paidTo(claim)));
    }

    private static void count() {
        document.section("Promise 19");
        document.holds("Returns how many claims have a state.", () -> {
            SettlementFund x = fundOf(0, 10);
            each(values(0, 1, 2, 3, 4), x::deny);
            each(values(0, 1), x::object);
            x.claim(10, 0, true, 0);
            due("GOOD", x.count(GOOD), 5);
            due("FAULTY", x.count(FAULTY), 1);
            due("DENIED", x.count(DENIED), 3);
            due("OBJECTED", x.count(OBJECTED), 2);
            x.pass(1);
            due("FAULTY after the deadline", x.count(FAULTY), 0);
            due("DENIED after the deadline", x.count(DENIED), 4);
        });
        document.holds("`state`: GOOD to OBJECTED", () -> {
            each(values(0, 1, 2, 3), state -> due("count", fundOfEachState().count(state), 1));
            each(values(-1, 4, LEAST, MOST), state ->
                dueThrows("state " + state, ARGUMENT, () -> fundOfEachState().count(state)));
        });
        document.holds("Returns how many.", () -> {
            due("none", new SettlementFund().count(GOOD), 0);
            due("all", fundOf(0, 24).count(GOOD), 24);
        });
        document.holds("Throws `IllegalArgumentException` if state is out of range", () -> {
            dueRefused(Checks::fundOfEachState, "state -1", ARGUMENT, x -> x.count(-1));
            dueRefused(Checks::fundOfEachState, "state 4", ARGUMENT, x -> x.count(4));
        });
    }

    private static void money() {
        document.section("Promise 20");
        document.holds("Returns the money left; it may be below 0.", () -> {
            SettlementFund x = fundOf(10, 1);
            due("moneyLeft", x.moneyLeft(), 10);
            x.setFund(10, 500, 6);
            due("below 0", x.moneyLeft(), -1);
            x.setFund(0, 0, 1000000);
            due("the least", x.moneyLeft(), -1000000);
            x.setFund(10000000, 0, 0);
            due("the most", x.moneyLeft(), 10000000);
            x.round(0);
            due("less a payment", x.moneyLeft(), 9000000);
            x.pass(31);
            due("when it is VOID", x.moneyLeft(), 10000000);
        });
        document.section("Promise 21");
        document.holds("Returns the fee.", () -> {
            SettlementFund x = fundOf(999, 2);
            due("none", x.fee(), 0);
            x.setFund(999, 1, 0);
            due("below 1", x.fee(), 0);
            x.setFund(1000, 1, 0);
            due("1", x.fee(), 1);
            x.setFund(10000000, 500, 1000000);
            due("the most", x.fee(), 5000000);
            x.round(0);
            due("after a round", x.fee(), 5000000);
        });
    }

    private static void paymentsAsTheyAre() {
        document.section("Promise 23");
        document.holds("Returns the claim of a payment.", () -> {
            SettlementFund x = fundOf(10, 3);
            x.deny(1);
            x.round(0);
            due("paymentTo(0)", x.paymentTo(0), 0);
            due("paymentTo(1)", x.paymentTo(1), 2);
        });
        document.holds("`payment`: its number", () -> {
            SettlementFund x = fundOf90Payments(10);
            x.round(0);
            each(values(0, 23, 24, 89, 90, 99), payment ->
                due("paymentTo(" + payment + ")", x.paymentTo(payment),
                    payment < 24 ? payment : payment == 24 ? 0 : payment == 89 ? 20 : payment - 90));
        });
        document.holds("Returns the number of the claim.", () -> {
            SettlementFund x = new SettlementFund();
            x.setFund(10, 0, 0);
            x.claim(29, 0, false, 0);
            x.claim(7, 0, false, 0);
            x.round(0);
            due("not of the person", x.paymentTo(0), 0);
            due("not of the person", x.paymentTo(1), 1);
        });
        document.holds("Throws `IndexOutOfBoundsException` if there is no such payment", () ->
            dueNoSuchPayment(payment -> fundOfEachPayment().paymentTo(payment)));
        document.section("Promise 24");
        document.holds("Returns the amount of a payment.", () -> {
            SettlementFund x = fundOf(101, 2);
            x.round(0);
            due("amountOf(0)", x.amountOf(0), 51);
            due("amountOf(1)", x.amountOf(1), 50);
        });
        document.holds("`payment`: its number", () -> {
            SettlementFund x = fundOf90Payments(10);
            x.round(0);
            due("the first", x.amountOf(0), 416667);
            due("the last that can be", x.amountOf(99), 3);
        });
        document.holds("Returns the amount, also if it is VOID.", () -> {
            SettlementFund x = fundOfEachPayment();
            due("a CASHED one", x.amountOf(0), 50);
            due("a VOID one", x.amountOf(1), 50);
            due("an OPEN one", x.amountOf(2), 50);
        });
        document.holds("Throws `IndexOutOfBoundsException` if there is no such payment", () ->
            dueNoSuchPayment(payment -> fundOfEachPayment().amountOf(payment)));
        document.section("Promise 25");
        document.holds("Returns the state of a payment.", () -> {
            SettlementFund x = fundOf(10, 2);
            x.round(0);
            due("OPEN", x.paymentState(1), OPEN);
            x.cash(0);
            due("CASHED", x.paymentState(0), CASHED);
            x.pass(30);
            due("OPEN after 30 days", x.paymentState(1), OPEN);
            x.pass(1);
            due("VOID after 31 days", x.paymentState(1), VOID);
        });
        document.holds("`payment`: its number", () -> {
            SettlementFund x = fundOf90Payments(10);
            x.round(0);
            due("the first", x.paymentState(0), CASHED);
            due("the last of an earlier round", x.paymentState(89), VOID);
            due("the last that can be", x.paymentState(99), OPEN);
        });
        document.holds("Returns OPEN, CASHED or VOID.", () -> {
            SettlementFund x = fundOfEachPayment();
            due("paymentState(2)", x.paymentState(2), OPEN);
            due("paymentState(0)", x.paymentState(0), CASHED);
            due("paymentState(1)", x.paymentState(1), VOID);
        });
        document.holds("Throws `IndexOutOfBoundsException` if there is no such payment", () ->
            dueNoSuchPayment(payment -> fundOfEachPayment().paymentState(payment)));
    }

    private static void shareOf() {
        document.section("Promise 26");
        document.holds("Returns what a claim would get in a round now, whether that could be made or not (with money left below 1, "
            + "that is 0).", () -> {
            due("with a FAULTY and an OBJECTED one", fundOfEachState().shareOf(0, 0), 1000);
            due("with an OPEN payment", fundOfOpenLast().shareOf(2, 0), 10);
            due("beyond 100 payments", fundOf90Payments(20).shareOf(0, 0), 2);
            due("with money of 1", fundOf(1, 1).shareOf(0, 0), 1);
            due("with money of 0", fundOf(0, 1).shareOf(0, 0), 0);
            due("with money below 0", fundOfDebt().shareOf(0, 0), 0);
            SettlementFund x = fundOfGrades(10, 2, 6, 1, 100);
            dueShares(x, 0, 6, 4);
            x.round(0);
            duePayments(x, 0, 6, 1, 4);
            dueShares(x, 0, 0, 0);
        });
        document.holds("`claim`: its number", () -> {
            due("the first", fundOf(49, 24).shareOf(0, 0), 3);
            due("the last", fundOf(49, 24).shareOf(23, 0), 2);
        });
        document.holds("`least`: 0 to 100000: the least sum", () -> {
            due("least 0", fundOf(9, 1).shareOf(0, 0), 9);
            due("least 9", fundOf(9, 1).shareOf(0, 9), 9);
            due("least 10", fundOf(9, 1).shareOf(0, 10), 0);
            due("least 100000", fundOf(100000, 1).shareOf(0, 100000), 100000);
            each(values(-1, 100001, LEAST, MOST), least ->
                dueThrows("least " + least, ARGUMENT, () -> fundOf(9, 1).shareOf(0, least)));
        });
        document.holds("Returns the share; 0 if it would take no part.", () -> {
            each(values(1, 2, 3), claim -> due("of one that is not GOOD", fundOfEachState().shareOf(claim, 0), 0));
            due("of one with a VOID payment", fundOfEachPayment().shareOf(2, 0), 0);
            due("of one without room", fundOfOpenLast().shareOf(1, 0), 0);
            due("of one left out for the least sum", fundOf(10, 2).shareOf(1, 6), 0);
            due("of the one that stays", fundOf(10, 2).shareOf(0, 6), 10);
        });
        document.holds("Throws `IndexOutOfBoundsException` if there is no such claim", () -> {
            dueNoSuchClaim(claim -> fundOfEachState().shareOf(claim, 0));
            dueNoSuchClaim(claim -> fundOfEachState().shareOf(claim, -1));
            dueRefused(Checks::fundOfEachState, "claim 4", INDEX, x -> x.shareOf(4, 0));
        });
        document.holds("Throws `IllegalArgumentException` if least is out of range", () -> {
            dueRefused(Checks::fundOfEachState, "least -1", ARGUMENT, x -> x.shareOf(0, -1));
            dueRefused(Checks::fundOfEachState, "least 100001 of a DENIED one", ARGUMENT, x -> x.shareOf(2, 100001));
            dueRefused(() -> fundOf(0, 1), "least -1 without money", ARGUMENT, x -> x.shareOf(0, -1));
        });
    }

    private static void shareBySorting() {
        document.section("Promise 27");
        document.holds("Returns the same, found by putting the claims that take part in the order of room by points, and taking "
            + "those that reach their rooms from the front.", () -> {
            dueShares(fundOfGrades(320, 1, 100, 4, 100, 2, 120), 0, 100, 100, 120);
            dueShares(fundOfGrades(301, 1, 100, 4, 100, 2, 120), 0, 81, 100, 120);
            dueShares(fundOfGrades(260, 1, 100, 4, 100, 2, 120), 0, 54, 100, 106);
            dueShares(fundOfGrades(60, 1, 20, 2, 40, 3, 60), 0, 10, 20, 30);
            dueShares(fundOfGrades(120, 1, 20, 2, 40, 3, 60), 0, 20, 40, 60);
            dueShares(fundOfGrades(119, 1, 20, 2, 40, 3, 60), 0, 20, 40, 59);
            dueShares(fundOfGrades(14, 1, 100, 1, 90, 5, 4, 1, 80), 0, 4, 3, 4, 3);
            dueShares(fundOfGrades(1000003, 100, 1000000, 1, 1, 99, 1000000, 1, 1000000), 0, 500002, 1, 495000, 5000);
            due("with money of 0", fundOf(0, 1).shareBySorting(0, 0), 0);
            due("with money below 0", fundOfDebt().shareBySorting(0, 0), 0);
            due("beyond 100 payments", fundOf90Payments(20).shareBySorting(0, 0), 2);
        });
        document.holds("`claim`: its number", () -> {
            due("the first", fundOf(49, 24).shareBySorting(0, 0), 3);
            due("the last", fundOf(49, 24).shareBySorting(23, 0), 2);
        });
        document.holds("`least`: 0 to 100000: the least sum", () -> {
            dueShares(fundOfGrades(60, 1, 9, 2, 11, 3, 1000), 10, 0, 11, 49);
            dueShares(fundOfGrades(60, 1, 9, 2, 1000, 1, 9), 10, 0, 60, 0);
            dueShares(fundOfGrades(61, 1, 30, 1, 20, 1, 20), 20, 21, 20, 20);
            dueShares(fundOfGrades(61, 1, 30, 1, 20, 1, 20), 21, 30, 0, 0);
            dueShares(fundOf(100000, 1), 100000, 100000);
            each(values(-1, 100001, LEAST, MOST), least ->
                dueThrows("least " + least, ARGUMENT, () -> fundOf(9, 1).shareBySorting(0, least)));
        });
        document.holds("Returns the share; 0 if it would take no part.", () -> {
            each(values(1, 2, 3), claim -> due("of one that is not GOOD", fundOfEachState().shareBySorting(claim, 0), 0));
            due("of one with a VOID payment", fundOfEachPayment().shareBySorting(2, 0), 0);
            due("of one without room", fundOfOpenLast().shareBySorting(1, 0), 0);
            due("of one left out for the least sum", fundOf(10, 2).shareBySorting(1, 6), 0);
            due("of the one that stays", fundOf(10, 2).shareBySorting(0, 6), 10);
        });
        document.holds("Throws `IndexOutOfBoundsException` if there is no such claim", () -> {
            dueNoSuchClaim(claim -> fundOfEachState().shareBySorting(claim, 0));
            dueNoSuchClaim(claim -> fundOfEachState().shareBySorting(claim, -1));
            dueRefused(Checks::fundOfEachState, "claim 4", INDEX, x -> x.shareBySorting(4, 0));
        });
        document.holds("Throws `IllegalArgumentException` if least is out of range", () -> {
            dueRefused(Checks::fundOfEachState, "least -1", ARGUMENT, x -> x.shareBySorting(0, -1));
            dueRefused(Checks::fundOfEachState, "least 100001 of a DENIED one", ARGUMENT, x -> x.shareBySorting(2, 100001));
            dueRefused(() -> fundOf(0, 1), "least -1 without money", ARGUMENT, x -> x.shareBySorting(0, -1));
        });
    }
}
