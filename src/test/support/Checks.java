import java.util.function.Consumer;
import java.util.function.IntSupplier;
import java.util.function.Supplier;

/** What the tests of the promises need. No object is used for more than 512 calls: what comes after is free. */
class Checks {
    static final Class<? extends RuntimeException> INDEX = IndexOutOfBoundsException.class;
    static final Class<? extends RuntimeException> ARGUMENT = IllegalArgumentException.class;
    static final Class<? extends RuntimeException> STATE = IllegalStateException.class;
    private static final int LOOKS = 6;
    private static int wrong = 0;
    private static String subject = "";

    static void about(String what) {
        subject = what;
    }

    static void fault(String text) {
        wrong++;
        System.out.println(subject + ": " + text);
    }

    static void end(String right) {
        System.out.println(wrong == 0 ? right : wrong + " answers are not as due");
        if (wrong != 0) {
            System.exit(1);
        }
    }

    static void due(String call, long got, long want) {
        if (got != want) {
            fault(call + " answered " + got + ", due is " + want);
        }
    }

    static void dueShares(SettlementFund x, int least, int... want) {
        for (int claim = 0; claim < want.length; claim++) {
            due("shareOf(" + claim + ", " + least + ")", x.shareOf(claim, least), want[claim]);
            due("shareBySorting(" + claim + ", " + least + ")", x.shareBySorting(claim, least), want[claim]);
        }
    }

    static void dueStates(SettlementFund x, int... want) {
        for (int claim = 0; claim < want.length; claim++) {
            due("stateOf(" + claim + ")", x.stateOf(claim), want[claim]);
        }
    }

    static void duePayments(SettlementFund x, int... toAndAmount) {
        due("payments", x.payments(), toAndAmount.length / 2);
        for (int i = 0; i + 1 < toAndAmount.length && i / 2 < x.payments(); i += 2) {
            due("paymentTo(" + i / 2 + ")", x.paymentTo(i / 2), toAndAmount[i]);
            due("amountOf(" + i / 2 + ")", x.amountOf(i / 2), toAndAmount[i + 1]);
        }
    }

    /** The call throws exactly this exception. */
    static void dueThrows(String call, Class<? extends RuntimeException> want, Runnable made) {
        Class<?> got = null;
        try {
            made.run();
        } catch (RuntimeException e) {
            got = e.getClass();
        }
        if (got != want) {
            fault(call + " threw " + got + ", due is " + want);
        }
    }

    /** The call throws exactly this exception on an object so made, which stays as one that was not called. */
    static void dueRefused(Supplier<SettlementFund> made, String call, Class<? extends RuntimeException> want,
            Consumer<SettlementFund> called) {
        SettlementFund x = made.get();
        dueThrows(call, want, () -> called.accept(x));
        dueSame(call, made, () -> {
            SettlementFund other = made.get();
            answerOrThrown(() -> {
                called.accept(other);
                return 0;
            });
            return other;
        });
    }

    static void dueSame(String call, Supplier<SettlementFund> one, Supplier<SettlementFund> other) {
        for (int look = 0; look < LOOKS; look++) {
            if (!lookAt(one.get(), look).equals(lookAt(other.get(), look))) {
                fault(call + " changed something that look " + look + " tells");
            }
        }
    }

    private static String answerOrThrown(IntSupplier call) {
        try {
            return call.getAsInt() + " ";
        } catch (RuntimeException e) {
            return e.getClass().getSimpleName() + " ";
        }
    }

    /** Several looks, each at an object of its own, so that none takes too many calls. */
    private static String lookAt(SettlementFund x, int look) {
        StringBuilder all = new StringBuilder();
        switch (look) {
            case 0 -> tellFund(x, all);
            case 1 -> tellClaims(x, all);
            case 2 -> tellPayments(x, all);
            case 3 -> tellChanges(x, all);
            case 4 -> tellDays(x, all);
            default -> tellGrades(x, all);
        }
        return all.toString();
    }

    private static void tellFund(SettlementFund x, StringBuilder all) {
        all.append(x.today()).append(' ').append(x.fee()).append(' ').append(x.moneyLeft()).append(' ')
            .append(x.claims()).append(' ').append(x.payments()).append('\n');
        for (int state = 0; state < 4; state++) {
            all.append(x.count(state)).append(' ');
        }
        for (int person = 0; person < 30; person++) {
            all.append(x.claimOf(person)).append(' ');
        }
    }

    private static void tellClaims(SettlementFund x, StringBuilder all) {
        int claims = x.claims();
        for (int claim = 0; claim < claims; claim++) {
            all.append(x.stateOf(claim)).append(' ').append(x.gradeOf(claim)).append(' ')
                .append(x.room(claim)).append(' ').append(x.paidTo(claim)).append(' ')
                .append(x.shareOf(claim, 0)).append(' ').append(x.shareBySorting(claim, 30)).append('\n');
        }
    }

    private static void tellPayments(SettlementFund x, StringBuilder all) {
        int payments = x.payments();
        for (int payment = 0; payment < payments; payment++) {
            all.append(x.paymentTo(payment)).append(' ').append(x.amountOf(payment)).append(' ')
                .append(x.paymentState(payment)).append('\n');
        }
    }

    /** Tells the deadlines, and who was objected to. */
    private static void tellChanges(SettlementFund x, StringBuilder all) {
        int claims = x.claims();
        for (int claim = 0; claim < claims; claim++) {
            int chosen = claim;
            all.append(answerOrThrown(() -> x.cure(chosen))).append(answerOrThrown(() -> x.deny(chosen)))
                .append(answerOrThrown(() -> x.object(chosen))).append('\n');
        }
    }

    /** Tells the days of the payments. */
    private static void tellDays(SettlementFund x, StringBuilder all) {
        int payments = x.payments();
        for (int days : new int[] {29, 1, 1}) {
            all.append(x.pass(days)).append('\n');
            for (int payment = Math.max(0, payments - 25); payment < payments; payment++) {
                all.append(x.paymentState(payment)).append(' ');
            }
        }
    }

    /** Tells points and caps of all grades, if there are places for new claims. */
    private static void tellGrades(SettlementFund x, StringBuilder all) {
        all.append(answerOrThrown(() -> x.setFund(1000003, 0, 0)));
        for (int person = 0; person < 30; person++) {
            if (x.claimOf(person) == SettlementFund.NONE) {
                int chosen = person;
                all.append(answerOrThrown(() -> x.claim(chosen, chosen % 5, false, 0)));
            }
        }
        tellClaims(x, all);
    }

    static SettlementFund fundOf(int sum, int goodClaims) {
        SettlementFund x = new SettlementFund();
        x.setFund(sum, 0, 0);
        for (int person = 0; person < goodClaims; person++) {
            x.claim(person, 0, false, 0);
        }
        return x;
    }

    /** One claim of each grade, in the order of the grades, with these points and caps. */
    static SettlementFund fundOfGrades(int sum, int... pointsAndCaps) {
        SettlementFund x = new SettlementFund();
        x.setFund(sum, 0, 0);
        for (int grade = 0; grade < pointsAndCaps.length / 2; grade++) {
            x.setGrade(grade, pointsAndCaps[2 * grade], pointsAndCaps[2 * grade + 1]);
            x.claim(grade, grade, false, 0);
        }
        return x;
    }

    /** Claims 0 to 3: GOOD, FAULTY with its deadline 5 days from today, DENIED and OBJECTED. */
    static SettlementFund fundOfEachState() {
        SettlementFund x = fundOf(1000, 1);
        x.claim(1, 1, true, 5);
        x.claim(2, 2, false, 0);
        x.claim(3, 3, false, 0);
        x.deny(2);
        x.deny(3);
        x.object(3);
        return x;
    }

    /** Payments 0 to 2, each of 50: CASHED to claim 1, VOID to claim 2, OPEN to claim 0. */
    static SettlementFund fundOfEachPayment() {
        SettlementFund x = fundOf(100, 3);
        x.deny(0);
        x.round(0);
        x.cash(0);
        x.pass(31);
        x.claim(0, 0, false, 0);
        x.deny(1);
        x.round(0);
        return x;
    }

    static void cashAll(SettlementFund x, int from, int to) {
        for (int payment = from; payment < to; payment++) {
            x.cash(payment);
        }
    }

    /** 90 payments, and as many claims that would get something in a round. */
    static SettlementFund fundOf90Payments(int gainers) {
        SettlementFund x = fundOf(10000000, 24);
        int first = 0;
        for (int takers = 24; takers > 20; takers--) {
            x.round(0);
            cashAll(x, first, first + takers - 1);
            first += takers;
            x.pass(31);
        }
        for (int claim = gainers; claim < 20; claim++) {
            x.deny(claim);
        }
        return x;
    }
}
