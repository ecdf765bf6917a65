import java.util.function.IntSupplier;

/** Each promise of the document by ordinary inputs, by its edges, and by wrong inputs. */
public final class PromisesTest {
    private static final Class<? extends RuntimeException> INDEX = IndexOutOfBoundsException.class;
    private static final Class<? extends RuntimeException> ARGUMENT = IllegalArgumentException.class;
    private static final Class<? extends RuntimeException> STATE = IllegalStateException.class;
    private static int wrong = 0;
    private static String promise = "";

    public static void main(String[] args) {
        newObject();
        setFund();
        setGrade();
        pass();
        passVoids();
        claim();
        claimJoins();
        claimIsFull();
        cure();
        deny();
        object();
        decide();
        round();
        roundIsRefused();
        roundOfTooManyPayments();
        cash();
        today();
        claims();
        claimOf();
        stateOf();
        gradeOf();
        room();
        paidTo();
        count();
        moneyLeft();
        fee();
        payments();
        paymentTo();
        amountOf();
        paymentState();
        shareOf();
        shareOfWithLeast();
        shareOfThoseThatReachTheirRooms();
        shareOfGreatNumbers();
        shareBySorting();
        shareBySortingOfSameShares();
        System.out.println(wrong == 0 ? "all promises are kept" : wrong + " answers are not as due");
        if (wrong != 0) {
            System.exit(1);
        }
    }

    // ---- what the tests need

    private static void due(String call, long got, long want) {
        if (got != want) {
            wrong++;
            System.out.println(promise + ": " + call + " answered " + got + ", due is " + want);
        }
    }

    /** The call throws exactly this exception, by a throw of the class, and changes nothing. */
    private static void dueThrows(SettlementFund x, String call, Class<? extends RuntimeException> want, IntSupplier made) {
        String before = look(x);
        Class<?> got = null;
        try {
            made.getAsInt();
        } catch (RuntimeException e) {
            got = e.getClass();
        }
        if (got != want) {
            wrong++;
            System.out.println(promise + ": " + call + " threw " + got + ", due is " + want);
        }
        if (!look(x).equals(before)) {
            wrong++;
            System.out.println(promise + ": " + call + " threw and changed something");
        }
    }

    private static String look(SettlementFund x) {
        StringBuilder all = new StringBuilder();
        all.append(x.today()).append(' ').append(x.fee()).append(' ').append(x.moneyLeft()).append('\n');
        for (int person = 0; person < 30; person++) {
            all.append(x.claimOf(person)).append(' ');
        }
        for (int claim = 0; claim < x.claims(); claim++) {
            all.append("\n").append(x.stateOf(claim)).append(' ').append(x.gradeOf(claim)).append(' ')
                .append(x.room(claim)).append(' ').append(x.paidTo(claim)).append(' ')
                .append(x.shareOf(claim, 0)).append(' ').append(x.shareBySorting(claim, 30));
        }
        for (int payment = 0; payment < x.payments(); payment++) {
            all.append("\n").append(x.paymentTo(payment)).append(' ').append(x.amountOf(payment)).append(' ')
                .append(x.paymentState(payment));
        }
        return all.toString();
    }

    private static int voidCall(Runnable call) {
        call.run();
        return 0;
    }

    private static SettlementFund fundOf(int sum, int goodClaims) {
        SettlementFund x = new SettlementFund();
        x.setFund(sum, 0, 0);
        for (int person = 0; person < goodClaims; person++) {
            x.claim(person, 0, false, 0);
        }
        return x;
    }

    private static void dueShares(SettlementFund x, int least, int... want) {
        for (int claim = 0; claim < want.length; claim++) {
            due("shareOf(" + claim + ", " + least + ")", x.shareOf(claim, least), want[claim]);
            due("shareBySorting(" + claim + ", " + least + ")", x.shareBySorting(claim, least), want[claim]);
        }
    }

    // ---- the promises

    private static void newObject() {
        promise = "1 a new object";
        SettlementFund x = new SettlementFund();
        due("today", x.today(), 0);
        due("claims", x.claims(), 0);
        due("payments", x.payments(), 0);
        due("moneyLeft", x.moneyLeft(), 0);
        due("fee", x.fee(), 0);
        for (int state = 0; state < 4; state++) {
            due("count", x.count(state), 0);
        }
        for (int person = 0; person < 30; person++) {
            due("claimOf", x.claimOf(person), SettlementFund.NONE);
        }
        for (int grade = 0; grade < 5; grade++) {
            due("claim", x.claim(grade, grade, false, 0), grade);
            due("the first cap", x.room(grade), 1000000);
        }
        x.setFund(100, 0, 0);
        dueShares(x, 0, 20, 20, 20, 20, 20);
        x.setGrade(4, 6, 1000000);
        dueShares(x, 0, 10, 10, 10, 10, 60);
        SettlementFund other = new SettlementFund();
        due("claims of another", other.claims(), 0);
    }

    private static void setFund() {
        promise = "2 setFund";
        SettlementFund x = new SettlementFund();
        due("setFund", x.setFund(1000, 100, 50), 850);
        due("setFund rounds the fee down", x.setFund(1999, 500, 0), 1000);
        due("setFund below 0", x.setFund(0, 500, 1000000), -1000000);
        due("setFund at its most", x.setFund(10000000, 500, 1000000), 4000000);
        dueThrows(x, "sum -1", ARGUMENT, () -> x.setFund(-1, 0, 0));
        dueThrows(x, "sum 10000001", ARGUMENT, () -> x.setFund(10000001, 0, 0));
        dueThrows(x, "fee -1", ARGUMENT, () -> x.setFund(0, -1, 0));
        dueThrows(x, "fee 501", ARGUMENT, () -> x.setFund(0, 501, 0));
        dueThrows(x, "expenses -1", ARGUMENT, () -> x.setFund(0, 0, -1));
        dueThrows(x, "expenses 1000001", ARGUMENT, () -> x.setFund(0, 0, 1000001));
        due("setFund at its least", x.setFund(0, 0, 0), 0);
        x.setFund(10, 0, 0);
        x.claim(0, 0, false, 0);
        x.round(0);
        dueThrows(x, "with payments", STATE, () -> x.setFund(1, 0, 0));
        dueThrows(x, "with payments, out of range", ARGUMENT, () -> x.setFund(-1, 0, 0));
        x.pass(31);
        dueThrows(x, "with void payments", STATE, () -> x.setFund(1, 0, 0));
    }

    private static void setGrade() {
        promise = "3 setGrade";
        SettlementFund x = fundOf(400, 1);
        x.claim(1, 4, false, 0);
        x.setGrade(0, 1, 1000000);
        x.setGrade(4, 3, 1000);
        dueShares(x, 0, 100, 300);
        due("room", x.room(1), 1000);
        x.setGrade(4, 100, 1);
        due("room", x.room(1), 1);
        x.setGrade(4, 1, 1000000);
        due("room", x.room(1), 1000000);
        dueThrows(x, "grade -1", INDEX, () -> voidCall(() -> x.setGrade(-1, 1, 1)));
        dueThrows(x, "grade 5", INDEX, () -> voidCall(() -> x.setGrade(5, 1, 1)));
        dueThrows(x, "grade 5, points 0", INDEX, () -> voidCall(() -> x.setGrade(5, 0, 1)));
        dueThrows(x, "points 0", ARGUMENT, () -> voidCall(() -> x.setGrade(0, 0, 1)));
        dueThrows(x, "points 101", ARGUMENT, () -> voidCall(() -> x.setGrade(0, 101, 1)));
        dueThrows(x, "cap 0", ARGUMENT, () -> voidCall(() -> x.setGrade(0, 1, 0)));
        dueThrows(x, "cap 1000001", ARGUMENT, () -> voidCall(() -> x.setGrade(0, 1, 1000001)));
        x.round(0);
        dueThrows(x, "with payments", STATE, () -> voidCall(() -> x.setGrade(0, 1, 1)));
        dueThrows(x, "with payments, cap 0", ARGUMENT, () -> voidCall(() -> x.setGrade(0, 1, 0)));
        dueThrows(x, "with payments, grade 5", INDEX, () -> voidCall(() -> x.setGrade(5, 0, 0)));
    }

    private static void pass() {
        promise = "4 pass";
        SettlementFund x = new SettlementFund();
        due("pass(1)", x.pass(1), 1);
        due("pass(200)", x.pass(200), 201);
        dueThrows(x, "days 0", ARGUMENT, () -> x.pass(0));
        dueThrows(x, "days -1", ARGUMENT, () -> x.pass(-1));
        dueThrows(x, "days 201", ARGUMENT, () -> x.pass(201));
        x.claim(0, 0, true, 2);
        x.claim(1, 0, true, 0);
        x.claim(2, 0, true, 100);
        x.claim(3, 0, false, 0);
        x.pass(1);
        due("after the deadline of today", x.stateOf(1), SettlementFund.DENIED);
        x.pass(1);
        due("on the deadline", x.stateOf(0), SettlementFund.FAULTY);
        x.pass(1);
        due("after the deadline", x.stateOf(0), SettlementFund.DENIED);
        x.pass(97);
        due("on the last deadline", x.stateOf(2), SettlementFund.FAULTY);
        x.pass(200);
        due("long after the last deadline", x.stateOf(2), SettlementFund.DENIED);
        due("a good one has no deadline", x.stateOf(3), SettlementFund.GOOD);
    }

    private static void passVoids() {
        promise = "4 pass and payments";
        SettlementFund x = fundOf(100, 2);
        x.pass(5);
        x.round(0);
        x.cash(1);
        x.pass(30);
        due("after 30 days", x.paymentState(0), SettlementFund.OPEN);
        x.pass(1);
        due("after 31 days", x.paymentState(0), SettlementFund.VOID);
        due("a cashed one", x.paymentState(1), SettlementFund.CASHED);
        due("moneyLeft", x.moneyLeft(), 50);
    }

    private static void claim() {
        promise = "5 claim";
        SettlementFund x = new SettlementFund();
        due("claim", x.claim(29, 4, false, 100), 0);
        due("claim", x.claim(0, 0, true, 100), 1);
        due("claimOf", x.claimOf(29), 0);
        due("claimOf", x.claimOf(0), 1);
        due("grade", x.gradeOf(0), 4);
        due("state", x.stateOf(0), SettlementFund.GOOD);
        due("state", x.stateOf(1), SettlementFund.FAULTY);
        x.pass(100);
        due("on the deadline", x.stateOf(1), SettlementFund.FAULTY);
        dueThrows(x, "person -1", INDEX, () -> x.claim(-1, 0, false, 0));
        dueThrows(x, "person 30", INDEX, () -> x.claim(30, 0, false, 0));
        dueThrows(x, "grade -1", INDEX, () -> x.claim(1, -1, false, 0));
        dueThrows(x, "grade 5", INDEX, () -> x.claim(1, 5, false, 0));
        dueThrows(x, "grade 5, days -1", INDEX, () -> x.claim(1, 5, false, -1));
        dueThrows(x, "days -1", ARGUMENT, () -> x.claim(1, 0, true, -1));
        dueThrows(x, "days 101", ARGUMENT, () -> x.claim(1, 0, true, 101));
        dueThrows(x, "days 101 without fault", ARGUMENT, () -> x.claim(1, 0, false, 101));
        dueThrows(x, "days 101, joined", ARGUMENT, () -> x.claim(29, 0, false, 101));
    }

    private static void claimJoins() {
        promise = "5 claim joined";
        SettlementFund x = new SettlementFund();
        x.claim(7, 2, true, 10);
        due("joined by a lower grade with fault", x.claim(7, 1, true, 50), 0);
        due("claims", x.claims(), 1);
        due("the greater grade stays", x.gradeOf(0), 2);
        due("stays FAULTY", x.stateOf(0), SettlementFund.FAULTY);
        x.claim(7, 3, true, 100);
        due("the greater grade", x.gradeOf(0), 3);
        due("the deadline stays", x.cure(0), 10);
        x.claim(7, 0, true, 10);
        due("GOOD stays GOOD", x.stateOf(0), SettlementFund.GOOD);
        x.deny(0);
        x.claim(7, 4, true, 10);
        due("DENIED stays with a fault", x.stateOf(0), SettlementFund.DENIED);
        due("but takes the grade", x.gradeOf(0), 4);
        x.object(0);
        x.claim(7, 0, false, 10);
        due("OBJECTED stays", x.stateOf(0), SettlementFund.OBJECTED);
        x.decide(0, false);
        x.claim(7, 0, false, 10);
        due("DENIED is GOOD without fault", x.stateOf(0), SettlementFund.GOOD);
        x.deny(0);
        dueThrows(x, "object again after joining", STATE, () -> x.object(0));
        x.claim(8, 0, true, 3);
        x.claim(8, 0, false, 0);
        due("FAULTY is GOOD without fault", x.stateOf(1), SettlementFund.GOOD);
        x.pass(200);
        due("and has no deadline", x.stateOf(1), SettlementFund.GOOD);
    }

    private static void claimIsFull() {
        promise = "5 claim when full";
        SettlementFund x = new SettlementFund();
        for (int i = 0; i < 24; i++) {
            due("claim", x.claim(29 - i, 0, false, 0), i);
        }
        dueThrows(x, "the 25th", STATE, () -> x.claim(0, 0, false, 0));
        dueThrows(x, "the 25th, days 101", ARGUMENT, () -> x.claim(0, 0, false, 101));
        dueThrows(x, "the 25th, person 30", INDEX, () -> x.claim(30, 0, false, 0));
        due("joined when full", x.claim(6, 4, false, 0), 23);
        due("its grade", x.gradeOf(23), 4);
    }

    private static void cure() {
        promise = "6 cure";
        SettlementFund x = new SettlementFund();
        x.claim(0, 0, true, 10);
        x.claim(1, 0, true, 4);
        x.claim(2, 0, true, 0);
        x.claim(3, 0, true, 2);
        due("cure today", x.cure(2), 0);
        x.pass(4);
        due("cure", x.cure(0), 6);
        due("state", x.stateOf(0), SettlementFund.GOOD);
        due("cure on the deadline", x.cure(1), 0);
        dueThrows(x, "a GOOD one", STATE, () -> x.cure(0));
        dueThrows(x, "a DENIED one", STATE, () -> x.cure(3));
        x.object(3);
        dueThrows(x, "an OBJECTED one", STATE, () -> x.cure(3));
        dueThrows(x, "claim -1", INDEX, () -> x.cure(-1));
        dueThrows(x, "claim 4", INDEX, () -> x.cure(4));
        x.pass(20);
        due("stays GOOD", x.stateOf(0), SettlementFund.GOOD);
    }

    private static void deny() {
        promise = "7 deny";
        SettlementFund x = new SettlementFund();
        x.claim(0, 0, false, 0);
        x.claim(1, 0, true, 9);
        due("deny a GOOD one", x.deny(0), SettlementFund.GOOD);
        due("deny a FAULTY one", x.deny(1), SettlementFund.FAULTY);
        due("state", x.stateOf(1), SettlementFund.DENIED);
        dueThrows(x, "a DENIED one", STATE, () -> x.deny(0));
        x.object(0);
        dueThrows(x, "an OBJECTED one", STATE, () -> x.deny(0));
        dueThrows(x, "claim -1", INDEX, () -> x.deny(-1));
        dueThrows(x, "claim 2", INDEX, () -> x.deny(2));
    }

    private static void object() {
        promise = "8 object";
        SettlementFund x = new SettlementFund();
        x.claim(0, 0, false, 0);
        x.claim(1, 0, true, 1);
        dueThrows(x, "a GOOD one", STATE, () -> x.object(0));
        dueThrows(x, "a FAULTY one", STATE, () -> x.object(1));
        x.deny(0);
        due("object", x.object(0), 1);
        due("state", x.stateOf(0), SettlementFund.OBJECTED);
        dueThrows(x, "an OBJECTED one", STATE, () -> x.object(0));
        x.pass(2);
        due("object to a denial by deadline", x.object(1), 2);
        x.decide(0, true);
        x.deny(0);
        dueThrows(x, "a second time", STATE, () -> x.object(0));
        dueThrows(x, "claim -1", INDEX, () -> x.object(-1));
        dueThrows(x, "claim 2", INDEX, () -> x.object(2));
    }

    private static void decide() {
        promise = "9 decide";
        SettlementFund x = fundOf(0, 3);
        for (int claim = 0; claim < 3; claim++) {
            x.deny(claim);
            x.object(claim);
        }
        due("decide GOOD", x.decide(1, true), 2);
        due("state", x.stateOf(1), SettlementFund.GOOD);
        due("decide DENIED", x.decide(0, false), 1);
        due("state", x.stateOf(0), SettlementFund.DENIED);
        dueThrows(x, "a DENIED one", STATE, () -> x.decide(0, true));
        dueThrows(x, "a GOOD one", STATE, () -> x.decide(1, false));
        x.claim(9, 0, true, 3);
        dueThrows(x, "a FAULTY one", STATE, () -> x.decide(3, true));
        dueThrows(x, "claim -1", INDEX, () -> x.decide(-1, true));
        dueThrows(x, "claim 4", INDEX, () -> x.decide(4, true));
        due("decide the last", x.decide(2, true), 0);
    }

    private static void round() {
        promise = "10 round";
        SettlementFund x = fundOf(11, 4);
        x.deny(1);
        due("round", x.round(0), 3);
        due("payments", x.payments(), 3);
        int[] to = {0, 2, 3};
        int[] amount = {4, 4, 3};
        for (int payment = 0; payment < 3; payment++) {
            due("paymentTo", x.paymentTo(payment), to[payment]);
            due("amountOf", x.amountOf(payment), amount[payment]);
            due("paymentState", x.paymentState(payment), SettlementFund.OPEN);
        }
        due("moneyLeft", x.moneyLeft(), 0);

        SettlementFund few = fundOf(2, 4);
        due("who gets nothing has no payment", few.round(0), 2);
        due("payments", few.payments(), 2);
        due("paymentTo", few.paymentTo(1), 1);

        SettlementFund least = fundOf(25, 3);
        due("round(9)", least.round(9), 2);
        due("amountOf", least.amountOf(0), 13);
        due("amountOf", least.amountOf(1), 12);

        SettlementFund nobody = fundOf(25, 0);
        due("round without claims", nobody.round(0), 0);
        SettlementFund tooMuch = fundOf(25, 3);
        due("round of too great a least sum", tooMuch.round(100000), 0);
        due("payments", tooMuch.payments(), 0);
        due("moneyLeft", tooMuch.moneyLeft(), 25);
        due("round at a money of 1", fundOf(1, 1).round(1), 1);
        secondRound();
    }

    private static void secondRound() {
        SettlementFund x = fundOf(100, 3);
        x.setGrade(0, 1, 40);
        due("round", x.round(0), 3);
        x.cash(1);
        x.cash(2);
        x.pass(31);
        x.claim(3, 0, false, 0);
        due("room of one with a void payment", x.room(0), 40);
        due("its share", x.shareOf(0, 0), 0);
        due("money that nobody cashed comes again", x.round(0), 3);
        int[] to = {0, 1, 2, 1, 2, 3};
        int[] amount = {34, 33, 33, 7, 7, 20};
        for (int payment = 0; payment < 6; payment++) {
            due("paymentTo", x.paymentTo(payment), to[payment]);
            due("amountOf", x.amountOf(payment), amount[payment]);
        }
        due("paidTo", x.paidTo(1), 40);
        due("moneyLeft", x.moneyLeft(), 0);
    }

    private static void roundIsRefused() {
        promise = "10 round refused";
        SettlementFund x = fundOf(10, 1);
        dueThrows(x, "least -1", ARGUMENT, () -> x.round(-1));
        dueThrows(x, "least 100001", ARGUMENT, () -> x.round(100001));
        x.claim(1, 0, true, 5);
        dueThrows(x, "with a FAULTY one", STATE, () -> x.round(0));
        dueThrows(x, "with a FAULTY one, least -1", ARGUMENT, () -> x.round(-1));
        x.deny(1);
        x.object(1);
        dueThrows(x, "with an OBJECTED one", STATE, () -> x.round(0));
        x.decide(1, false);
        x.setGrade(0, 1, 4);
        due("round", x.round(0), 1);
        dueThrows(x, "with an OPEN payment", STATE, () -> x.round(0));
        x.cash(0);
        due("round with money, but no room", x.round(0), 0);
        SettlementFund empty = fundOf(0, 1);
        dueThrows(empty, "without money", STATE, () -> empty.round(0));
        empty.setFund(0, 0, 1);
        dueThrows(empty, "with money below 0", STATE, () -> empty.round(0));
    }

    private static void roundOfTooManyPayments() {
        promise = "10 round of payments beyond 100";
        SettlementFund x = fundOf(10000, 24);
        for (int grade = 0; grade < 5; grade++) {
            x.setGrade(grade, 1, 10 * (grade + 1));
        }
        for (int grade = 0; grade < 4; grade++) {
            joinAll(x, 24, grade);
            due("round", x.round(0), 24);
            cashAll(x);
        }
        joinAll(x, 5, 4);
        dueThrows(x, "101 payments", STATE, () -> x.round(0));
        x.deny(0);
        due("100 payments", x.round(0), 4);
        due("payments", x.payments(), 100);
        due("paymentTo", x.paymentTo(99), 4);
        cashAll(x);
        due("round of none", x.round(0), 0);
        x.claim(0, 0, false, 0);
        dueThrows(x, "one more", STATE, () -> x.round(0));
    }

    private static void joinAll(SettlementFund x, int persons, int grade) {
        for (int person = 0; person < persons; person++) {
            x.claim(person, grade, false, 0);
        }
    }

    private static void cashAll(SettlementFund x) {
        for (int payment = 0; payment < x.payments(); payment++) {
            if (x.paymentState(payment) == SettlementFund.OPEN) {
                x.cash(payment);
            }
        }
    }

    private static void cash() {
        promise = "11 cash";
        SettlementFund x = fundOf(11, 2);
        x.round(0);
        due("cash", x.cash(1), 5);
        due("state", x.paymentState(1), SettlementFund.CASHED);
        due("the other's state", x.paymentState(0), SettlementFund.OPEN);
        dueThrows(x, "a CASHED one", STATE, () -> x.cash(1));
        dueThrows(x, "payment -1", INDEX, () -> x.cash(-1));
        dueThrows(x, "payment 2", INDEX, () -> x.cash(2));
        x.pass(31);
        dueThrows(x, "a VOID one", STATE, () -> x.cash(0));
        SettlementFund late = fundOf(11, 1);
        late.round(0);
        late.pass(30);
        due("cash after 30 days", late.cash(0), 11);
    }

    private static void today() {
        promise = "12 today";
        SettlementFund x = new SettlementFund();
        x.pass(3);
        due("today", x.today(), 3);
        x.pass(200);
        due("today", x.today(), 203);
    }

    private static void claims() {
        promise = "13 claims";
        SettlementFund x = fundOf(0, 2);
        due("claims", x.claims(), 2);
        x.claim(0, 1, false, 0);
        due("claims after joining", x.claims(), 2);
        x.deny(0);
        x.claim(5, 1, true, 0);
        due("claims of any state", x.claims(), 3);
    }

    private static void claimOf() {
        promise = "14 claimOf";
        SettlementFund x = new SettlementFund();
        x.claim(29, 0, false, 0);
        x.claim(0, 0, false, 0);
        due("claimOf", x.claimOf(29), 0);
        due("claimOf", x.claimOf(0), 1);
        due("claimOf", x.claimOf(1), SettlementFund.NONE);
        dueThrows(x, "person -1", INDEX, () -> x.claimOf(-1));
        dueThrows(x, "person 30", INDEX, () -> x.claimOf(30));
    }

    private static void stateOf() {
        promise = "15 stateOf";
        SettlementFund x = fundOf(0, 4);
        x.claim(9, 0, true, 3);
        x.deny(1);
        x.deny(2);
        x.object(2);
        due("stateOf", x.stateOf(0), SettlementFund.GOOD);
        due("stateOf", x.stateOf(1), SettlementFund.DENIED);
        due("stateOf", x.stateOf(2), SettlementFund.OBJECTED);
        due("stateOf", x.stateOf(4), SettlementFund.FAULTY);
        dueThrows(x, "claim -1", INDEX, () -> x.stateOf(-1));
        dueThrows(x, "claim 5", INDEX, () -> x.stateOf(5));
        dueThrows(x, "the greatest number", INDEX, () -> x.stateOf(Integer.MAX_VALUE));
        dueThrows(x, "the least number", INDEX, () -> x.stateOf(Integer.MIN_VALUE));
    }

    private static void gradeOf() {
        promise = "16 gradeOf";
        SettlementFund x = new SettlementFund();
        x.claim(3, 2, false, 0);
        x.claim(4, 0, false, 0);
        due("gradeOf", x.gradeOf(0), 2);
        due("gradeOf", x.gradeOf(1), 0);
        dueThrows(x, "claim -1", INDEX, () -> x.gradeOf(-1));
        dueThrows(x, "claim 2", INDEX, () -> x.gradeOf(2));
    }

    private static void room() {
        promise = "17 room";
        SettlementFund x = fundOf(100, 2);
        x.setGrade(0, 1, 60);
        x.setGrade(1, 1, 40);
        x.setGrade(2, 1, 70);
        due("room", x.room(0), 60);
        x.round(0);
        due("room", x.room(0), 10);
        x.claim(0, 1, false, 0);
        due("room below 0", x.room(0), 0);
        x.claim(1, 2, false, 0);
        due("room of a greater grade", x.room(1), 20);
        x.deny(1);
        due("room of a DENIED one", x.room(1), 20);
        x.pass(31);
        due("room without the VOID one", x.room(0), 40);
        dueThrows(x, "claim -1", INDEX, () -> x.room(-1));
        dueThrows(x, "claim 2", INDEX, () -> x.room(2));
    }

    private static void paidTo() {
        promise = "18 paidTo";
        SettlementFund x = fundOf(11, 3);
        due("paidTo", x.paidTo(0), 0);
        x.deny(0);
        x.round(0);
        due("paidTo, OPEN", x.paidTo(1), 6);
        x.cash(0);
        due("paidTo, CASHED", x.paidTo(1), 6);
        due("paidTo nobody", x.paidTo(0), 0);
        x.pass(31);
        due("paidTo, VOID", x.paidTo(2), 0);
        x.round(0);
        due("paidTo, of two rounds", x.paidTo(1), 11);
        dueThrows(x, "claim -1", INDEX, () -> x.paidTo(-1));
        dueThrows(x, "claim 3", INDEX, () -> x.paidTo(3));
    }

    private static void count() {
        promise = "19 count";
        SettlementFund x = fundOf(0, 10);
        x.deny(0);
        x.deny(1);
        x.deny(2);
        x.object(1);
        x.object(2);
        x.claim(20, 0, true, 0);
        x.claim(21, 0, true, 0);
        x.claim(22, 0, true, 0);
        due("count GOOD", x.count(SettlementFund.GOOD), 7);
        due("count FAULTY", x.count(SettlementFund.FAULTY), 3);
        due("count DENIED", x.count(SettlementFund.DENIED), 1);
        due("count OBJECTED", x.count(SettlementFund.OBJECTED), 2);
        dueThrows(x, "state -1", ARGUMENT, () -> x.count(-1));
        dueThrows(x, "state 4", ARGUMENT, () -> x.count(4));
    }

    private static void moneyLeft() {
        promise = "20 moneyLeft";
        SettlementFund x = fundOf(0, 3);
        x.setGrade(0, 1, 100);
        x.setFund(10, 0, 20);
        due("moneyLeft below 0", x.moneyLeft(), -10);
        x.setFund(1000, 100, 50);
        due("moneyLeft", x.moneyLeft(), 850);
        x.round(0);
        due("moneyLeft less OPEN ones", x.moneyLeft(), 550);
        x.cash(0);
        due("moneyLeft less CASHED ones", x.moneyLeft(), 550);
        x.pass(31);
        due("moneyLeft and VOID ones", x.moneyLeft(), 750);
    }

    private static void fee() {
        promise = "21 fee";
        SettlementFund x = new SettlementFund();
        x.setFund(10000000, 500, 0);
        due("fee at its most", x.fee(), 5000000);
        x.setFund(999, 1, 0);
        due("fee below 1", x.fee(), 0);
        x.setFund(1999, 1, 0);
        due("fee rounded down", x.fee(), 1);
        x.setFund(9999999, 499, 0);
        due("fee rounded down", x.fee(), 4989999);
    }

    private static void payments() {
        promise = "22 payments";
        SettlementFund x = fundOf(100, 3);
        x.round(0);
        due("payments", x.payments(), 3);
        x.cash(0);
        x.pass(31);
        due("payments of any state", x.payments(), 3);
    }

    private static void paymentTo() {
        promise = "23 paymentTo";
        SettlementFund x = fundOf(100, 3);
        dueThrows(x, "payment 0 of none", INDEX, () -> x.paymentTo(0));
        x.deny(0);
        x.round(0);
        due("paymentTo", x.paymentTo(0), 1);
        due("paymentTo", x.paymentTo(1), 2);
        dueThrows(x, "payment -1", INDEX, () -> x.paymentTo(-1));
        dueThrows(x, "payment 2", INDEX, () -> x.paymentTo(2));
    }

    private static void amountOf() {
        promise = "24 amountOf";
        SettlementFund x = fundOf(101, 2);
        x.round(0);
        due("amountOf", x.amountOf(0), 51);
        due("amountOf", x.amountOf(1), 50);
        x.cash(1);
        x.pass(31);
        due("amountOf a VOID one", x.amountOf(0), 51);
        due("amountOf a CASHED one", x.amountOf(1), 50);
        dueThrows(x, "payment -1", INDEX, () -> x.amountOf(-1));
        dueThrows(x, "payment 2", INDEX, () -> x.amountOf(2));
    }

    private static void paymentState() {
        promise = "25 paymentState";
        SettlementFund x = fundOf(100, 2);
        x.round(0);
        x.cash(1);
        due("paymentState", x.paymentState(0), SettlementFund.OPEN);
        due("paymentState", x.paymentState(1), SettlementFund.CASHED);
        x.pass(31);
        due("paymentState", x.paymentState(0), SettlementFund.VOID);
        dueThrows(x, "payment -1", INDEX, () -> x.paymentState(-1));
        dueThrows(x, "payment 2", INDEX, () -> x.paymentState(2));
    }

    private static void shareOf() {
        promise = "26 shareOf";
        SettlementFund x = new SettlementFund();
        x.setGrade(0, 1, 200);
        x.setGrade(1, 3, 1000);
        x.setGrade(2, 2, 300);
        for (int grade = 0; grade < 3; grade++) {
            x.claim(grade, grade, false, 0);
        }
        x.setFund(850, 0, 0);
        dueShares(x, 0, 142, 425, 283);
        x.setFund(1001, 0, 0);
        dueShares(x, 0, 176, 525, 300);
        x.setFund(1200, 0, 0);
        dueShares(x, 0, 200, 700, 300);
        x.setFund(1500, 0, 0);
        dueShares(x, 0, 200, 1000, 300);
        x.setFund(5000, 0, 0);
        dueShares(x, 0, 200, 1000, 300);
        x.claim(3, 0, true, 5);
        x.deny(0);
        due("of a DENIED one", x.shareOf(0, 0), 0);
        due("of a FAULTY one", x.shareOf(3, 0), 0);
        x.setFund(0, 0, 0);
        dueShares(x, 0, 0, 0, 0, 0);
        x.setFund(0, 0, 1000000);
        dueShares(x, 0, 0, 0, 0, 0);
        dueThrows(x, "claim -1", INDEX, () -> x.shareOf(-1, 0));
        dueThrows(x, "claim 4", INDEX, () -> x.shareOf(4, 0));
        dueThrows(x, "claim 4, least -1", INDEX, () -> x.shareOf(4, -1));
        dueThrows(x, "least -1", ARGUMENT, () -> x.shareOf(0, -1));
        dueThrows(x, "least 100001", ARGUMENT, () -> x.shareOf(0, 100001));
    }

    private static void shareOfWithLeast() {
        promise = "26 shareOf with a least sum";
        SettlementFund x = fundOf(25, 3);
        dueShares(x, 8, 9, 8, 8);
        dueShares(x, 9, 13, 12, 0);
        dueShares(x, 13, 25, 0, 0);
        dueShares(x, 25, 25, 0, 0);
        dueShares(x, 26, 0, 0, 0);
        SettlementFund capped = new SettlementFund();
        capped.setGrade(0, 1, 5);
        capped.setGrade(1, 10, 100);
        capped.setFund(66, 0, 0);
        capped.claim(0, 0, false, 0);
        capped.claim(1, 1, false, 0);
        dueShares(capped, 0, 5, 61);
        dueShares(capped, 5, 5, 61);
        dueShares(capped, 6, 0, 66);
        dueShares(capped, 67, 0, 0);
    }

    private static void shareOfThoseThatReachTheirRooms() {
        promise = "26 shareOf of those that reach their rooms";
        SettlementFund x = new SettlementFund();
        x.setGrade(0, 2, 5);
        x.setGrade(1, 1, 100);
        x.setFund(10, 0, 0);
        x.claim(0, 0, false, 0);
        x.claim(1, 1, false, 0);
        x.claim(2, 1, false, 0);
        dueShares(x, 0, 5, 3, 2);
        SettlementFund looks = new SettlementFund();
        int[] caps = {90, 35, 28, 10, 1000};
        for (int grade = 0; grade < 5; grade++) {
            looks.setGrade(grade, 1, caps[grade]);
            looks.claim(grade, grade, false, 0);
        }
        looks.setFund(125, 0, 0);
        dueShares(looks, 0, 29, 29, 28, 10, 29);
    }

    private static void shareOfGreatNumbers() {
        promise = "26 shareOf of great numbers";
        SettlementFund x = new SettlementFund();
        x.setGrade(0, 100, 1000000);
        for (int person = 0; person < 24; person++) {
            x.claim(person, 0, false, 0);
        }
        x.setFund(10000000, 0, 0);
        for (int claim = 0; claim < 24; claim++) {
            int want = claim < 16 ? 416667 : 416666;
            due("shareOf", x.shareOf(claim, 0), want);
            due("shareBySorting", x.shareBySorting(claim, 100000), want);
        }
    }

    private static void shareBySorting() {
        promise = "27 shareBySorting";
        SettlementFund x = new SettlementFund();
        x.setGrade(0, 1, 100);
        x.setGrade(1, 4, 100);
        x.setGrade(2, 2, 120);
        x.setFund(320, 0, 0);
        for (int grade = 0; grade < 3; grade++) {
            x.claim(grade, grade, false, 0);
        }
        due("shareBySorting", x.shareBySorting(0, 0), 100);
        due("shareBySorting", x.shareBySorting(1, 0), 100);
        due("shareBySorting", x.shareBySorting(2, 0), 120);
        x.setFund(301, 0, 0);
        due("shareBySorting", x.shareBySorting(0, 0), 81);
        due("shareBySorting", x.shareBySorting(1, 0), 100);
        due("shareBySorting", x.shareBySorting(2, 0), 120);
        x.setFund(260, 0, 0);
        due("shareBySorting", x.shareBySorting(0, 0), 54);
        due("shareBySorting", x.shareBySorting(1, 0), 100);
        due("shareBySorting", x.shareBySorting(2, 0), 106);
        dueThrows(x, "claim -1", INDEX, () -> x.shareBySorting(-1, 0));
        dueThrows(x, "claim 3", INDEX, () -> x.shareBySorting(3, 0));
        dueThrows(x, "claim 3, least -1", INDEX, () -> x.shareBySorting(3, -1));
        dueThrows(x, "least -1", ARGUMENT, () -> x.shareBySorting(0, -1));
        dueThrows(x, "least 100001", ARGUMENT, () -> x.shareBySorting(0, 100001));
    }

    private static void shareBySortingOfSameShares() {
        promise = "27 shareBySorting of same shares";
        SettlementFund x = new SettlementFund();
        x.setGrade(0, 1, 20);
        x.setGrade(1, 2, 20);
        x.setGrade(2, 1, 60);
        x.setFund(100, 0, 0);
        x.claim(0, 0, false, 0);
        x.claim(1, 1, false, 0);
        x.claim(2, 2, false, 0);
        dueShares(x, 20, 20, 20, 60);
        dueShares(x, 21, 0, 0, 60);
        x.setFund(41, 0, 0);
        dueShares(x, 0, 11, 20, 10);
        dueShares(x, 11, 20, 20, 0);
        x.claim(3, 1, false, 0);
        x.claim(4, 0, false, 0);
        x.setFund(80, 0, 0);
        dueShares(x, 15, 20, 20, 20, 20, 0);
        dueShares(x, 21, 0, 0, 60, 0, 0);
    }
}
