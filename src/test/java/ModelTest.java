import java.math.BigInteger;
import java.util.ArrayList;
import java.util.List;
import java.util.Random;

/**
 * Runs of up to 512 calls against a model that follows the document's words one by one: days pass
 * singly, payments are objects, shares are found with BigInteger. The seeds are fixed.
 */
public final class ModelTest {
    private static final int RUNS = 6000;
    private static final int CALLS = 512;
    private static final int MOST_CALLS_AT_ONCE = 5;
    private static final int INDEX = -1001, ARGUMENT = -1002, STATE = -1003;

    private static final class Claim {
        int person, grade, state, deadline;
        boolean wasObjected;
    }

    private static final class Payment {
        Claim claim;
        int amount, day, state;
    }

    /** Answers as the document tells; an exception is answered by its sign. */
    private static final class Model {
        int sum, fee, expenses, today;
        final int[] points = {1, 1, 1, 1, 1};
        final int[] cap = {1000000, 1000000, 1000000, 1000000, 1000000};
        final List<Claim> claims = new ArrayList<>();
        final List<Payment> payments = new ArrayList<>();

        static boolean in(int value, int low, int high) {
            return low <= value && value <= high;
        }

        boolean noClaim(int claim) {
            return !in(claim, 0, claims.size() - 1);
        }

        int feeNow() {
            return BigInteger.valueOf(sum).multiply(BigInteger.valueOf(fee)).divide(BigInteger.valueOf(1000)).intValue();
        }

        int moneyLeft() {
            int money = sum - feeNow() - expenses;
            for (Payment p : payments) {
                money -= p.state == SettlementFund.VOID ? 0 : p.amount;
            }
            return money;
        }

        int paidTo(Claim claim) {
            int paid = 0;
            for (Payment p : payments) {
                paid += p.claim != claim || p.state == SettlementFund.VOID ? 0 : p.amount;
            }
            return paid;
        }

        int room(Claim claim) {
            return Math.max(0, cap[claim.grade] - paidTo(claim));
        }

        int count(int state) {
            return (int) claims.stream().filter(c -> c.state == state).count();
        }

        Claim of(int person) {
            for (Claim c : claims) {
                if (c.person == person) {
                    return c;
                }
            }
            return null;
        }

        int setFund(int s, int f, int e) {
            if (!in(s, 0, 10000000) || !in(f, 0, 500) || !in(e, 0, 1000000)) return ARGUMENT;
            if (!payments.isEmpty()) return STATE;
            sum = s;
            fee = f;
            expenses = e;
            return moneyLeft();
        }

        int setGrade(int grade, int p, int c) {
            if (!in(grade, 0, 4)) return INDEX;
            if (!in(p, 1, 100) || !in(c, 1, 1000000)) return ARGUMENT;
            if (!payments.isEmpty()) return STATE;
            points[grade] = p;
            cap[grade] = c;
            return 0;
        }

        int pass(int days) {
            if (!in(days, 1, 200)) return ARGUMENT;
            for (int d = 0; d < days; d++) {
                today++;
                for (Claim c : claims) {
                    if (c.state == SettlementFund.FAULTY && c.deadline < today) c.state = SettlementFund.DENIED;
                }
                for (Payment p : payments) {
                    if (p.state == SettlementFund.OPEN && p.day + 30 < today) p.state = SettlementFund.VOID;
                }
            }
            return today;
        }

        int claim(int person, int grade, boolean isFault, int days) {
            if (!in(person, 0, 29) || !in(grade, 0, 4)) return INDEX;
            if (!in(days, 0, 100)) return ARGUMENT;
            Claim c = of(person);
            if (c != null) {
                c.grade = Math.max(c.grade, grade);
                boolean isOut = c.state == SettlementFund.FAULTY || c.state == SettlementFund.DENIED;
                if (isOut && !isFault) c.state = SettlementFund.GOOD;
                return claims.indexOf(c);
            }
            if (claims.size() == 24) return STATE;
            c = new Claim();
            c.person = person;
            c.grade = grade;
            c.state = isFault ? SettlementFund.FAULTY : SettlementFund.GOOD;
            c.deadline = today + days;
            claims.add(c);
            return claims.size() - 1;
        }

        int cure(int claim) {
            if (noClaim(claim)) return INDEX;
            Claim c = claims.get(claim);
            if (c.state != SettlementFund.FAULTY) return STATE;
            c.state = SettlementFund.GOOD;
            return c.deadline - today;
        }

        int deny(int claim) {
            if (noClaim(claim)) return INDEX;
            Claim c = claims.get(claim);
            int before = c.state;
            if (before == SettlementFund.DENIED || before == SettlementFund.OBJECTED) return STATE;
            c.state = SettlementFund.DENIED;
            return before;
        }

        int object(int claim) {
            if (noClaim(claim)) return INDEX;
            Claim c = claims.get(claim);
            if (c.state != SettlementFund.DENIED || c.wasObjected) return STATE;
            c.state = SettlementFund.OBJECTED;
            c.wasObjected = true;
            return count(SettlementFund.OBJECTED);
        }

        int decide(int claim, boolean isGood) {
            if (noClaim(claim)) return INDEX;
            Claim c = claims.get(claim);
            if (c.state != SettlementFund.OBJECTED) return STATE;
            c.state = isGood ? SettlementFund.GOOD : SettlementFund.DENIED;
            return count(SettlementFund.OBJECTED);
        }

        int round(int least) {
            if (!in(least, 0, 100000)) return ARGUMENT;
            if (count(SettlementFund.FAULTY) + count(SettlementFund.OBJECTED) > 0) return STATE;
            for (Payment p : payments) {
                if (p.state == SettlementFund.OPEN) return STATE;
            }
            if (moneyLeft() < 1) return STATE;
            int[] share = shares(least);
            int made = 0;
            for (int s : share) {
                made += s > 0 ? 1 : 0;
            }
            if (payments.size() + made > 100) return STATE;
            for (int i = 0; i < share.length; i++) {
                if (share[i] > 0) pay(claims.get(i), share[i]);
            }
            return made;
        }

        void pay(Claim claim, int amount) {
            Payment p = new Payment();
            p.claim = claim;
            p.amount = amount;
            p.day = today;
            p.state = SettlementFund.OPEN;
            payments.add(p);
        }

        int cash(int payment) {
            if (!in(payment, 0, payments.size() - 1)) return INDEX;
            Payment p = payments.get(payment);
            if (p.state != SettlementFund.OPEN) return STATE;
            p.state = SettlementFund.CASHED;
            return p.amount;
        }

        int shareOf(int claim, int least) {
            if (noClaim(claim)) return INDEX;
            if (!in(least, 0, 100000)) return ARGUMENT;
            return shares(least)[claim];
        }

        boolean takesPart(Claim claim) {
            for (Payment p : payments) {
                if (p.claim == claim && p.state == SettlementFund.VOID) return false;
            }
            return claim.state == SettlementFund.GOOD && room(claim) > 0;
        }

        int[] shares(int least) {
            List<Integer> part = new ArrayList<>();
            for (int i = 0; i < claims.size(); i++) {
                if (moneyLeft() > 0 && takesPart(claims.get(i))) part.add(i);
            }
            while (true) {
                int[] share = sharesOf(part);
                int out = -1;
                for (int i : part) {
                    if (out < 0 || share[i] <= share[out]) out = i;
                }
                if (out < 0 || least == 0 || share[out] >= least) return share;
                part.remove(Integer.valueOf(out));
            }
        }

        int[] sharesOf(List<Integer> part) {
            int[] share = new int[claims.size()];
            List<Integer> others = new ArrayList<>(part);
            BigInteger money = BigInteger.valueOf(moneyLeft());
            while (true) {
                BigInteger all = BigInteger.ZERO;
                for (int i : others) {
                    all = all.add(pointsOf(i));
                }
                List<Integer> reached = new ArrayList<>();
                for (int i : others) {
                    BigInteger room = BigInteger.valueOf(room(claims.get(i)));
                    if (pointsOf(i).multiply(money).compareTo(room.multiply(all)) >= 0) reached.add(i);
                }
                if (reached.isEmpty()) return shareByPoints(share, others, money, all);
                for (int i : reached) {
                    share[i] = room(claims.get(i));
                    money = money.subtract(BigInteger.valueOf(share[i]));
                }
                others.removeAll(reached);
            }
        }

        int[] shareByPoints(int[] share, List<Integer> others, BigInteger money, BigInteger all) {
            int over = money.intValueExact();
            for (int i : others) {
                share[i] = pointsOf(i).multiply(money).divide(all).intValueExact();
                over -= share[i];
            }
            for (int i : others) {
                if (over > 0) {
                    share[i]++;
                    over--;
                }
            }
            return share;
        }

        BigInteger pointsOf(int claim) {
            return BigInteger.valueOf(points[claims.get(claim).grade]);
        }
    }

    private interface Call {
        int answer();
    }

    private static int answerOf(Call call) {
        try {
            return call.answer();
        } catch (RuntimeException e) {
            if (e.getClass() == IndexOutOfBoundsException.class) return INDEX;
            if (e.getClass() == IllegalArgumentException.class) return ARGUMENT;
            if (e.getClass() == IllegalStateException.class) return STATE;
            throw e;
        }
    }

    private final Random random;
    private final Model model = new Model();
    private final SettlementFund fund = new SettlementFund();
    private final List<String> told = new ArrayList<>();
    private final int scale;
    private final int faults;
    private final int cashing;
    private final boolean isClimbing;
    private static final int[] rounds = new int[4];

    private ModelTest(long seed) {
        random = new Random(seed);
        int[] scales = {5, 40, 300, 5000, 200000, 1000000};
        isClimbing = random.nextInt(4) == 0;
        scale = scales[random.nextInt(isClimbing ? 4 : scales.length)];
        faults = isClimbing ? 0 : random.nextInt(4) == 0 ? 60 : random.nextInt(15);
        cashing = random.nextInt(3) == 0 ? 40 : 90 + random.nextInt(11);
    }

    public static void main(String[] args) {
        for (long seed = 1; seed <= RUNS; seed++) {
            if (!new ModelTest(seed).isRight()) {
                System.out.println("seed " + seed);
                System.exit(1);
            }
        }
        System.out.println("the model agrees in " + RUNS + " runs: " + rounds[0] + " rounds with payments, "
            + rounds[1] + " of none, most payments in a run " + rounds[2] + ", " + rounds[3] + " refused after the 76th payment");
    }

    private boolean isRight() {
        while (told.size() <= CALLS - MOST_CALLS_AT_ONCE) {
            boolean isAgreed = random.nextInt(100) < (isClimbing ? 95 : 70) ? command() : question();
            if (!isAgreed) {
                told.forEach(System.out::println);
                return false;
            }
        }
        rounds[2] = Math.max(rounds[2], model.payments.size());
        return true;
    }

    private boolean agreed(String call, int want, Call asked) {
        int got = answerOf(asked);
        told.add(call + " answered " + got + ", due is " + want);
        return got == want;
    }

    /** Mostly within low and high, sometimes on their edges or just outside. */
    private int near(int low, int high) {
        int dice = random.nextInt(60);
        if (dice == 0) return low - 1;
        if (dice == 1) return high + 1;
        if (dice == 2) return high;
        if (dice == 3) return low;
        if (dice == 4 && random.nextInt(10) == 0) return random.nextInt();
        return low > high ? low : low + random.nextInt(high - low + 1);
    }

    private int least() {
        return random.nextInt(2) == 0 ? 0 : random.nextInt(30) == 0 ? near(0, 100000) : random.nextInt(Math.min(100000, scale) + 1);
    }

    private boolean setting() {
        if (random.nextInt(2) == 0) {
            int s = random.nextInt(4) == 0 ? near(0, 10000000) : near(0, Math.min(10000000, scale * 20));
            int f = near(0, 500);
            int e = random.nextInt(2) == 0 ? 0 : near(0, Math.min(1000000, scale));
            return agreed("setFund(" + s + ", " + f + ", " + e + ")", model.setFund(s, f, e), () -> fund.setFund(s, f, e));
        }
        int grade = near(0, 4);
        int points = near(1, random.nextInt(2) == 0 ? 5 : 100);
        int cap = near(1, scale);
        return agreed("setGrade(" + grade + ", " + points + ", " + cap + ")", model.setGrade(grade, points, cap), () -> {
            fund.setGrade(grade, points, cap);
            return 0;
        });
    }

    private boolean command() {
        int dice = random.nextInt(100);
        if (isClimbing && told.size() < 16) return climbingSetting(told.size() % 6 - 1);
        if (told.size() < 20 || dice < 4) return setting();
        if (isClimbing && hasOpen() && random.nextInt(10) > 0) return cashing();
        if (isClimbing && random.nextInt(3) > 0) return entering();
        if (dice < 35) return entering();
        if (dice < 41) return passing();
        if (dice < 60) return changing();
        if (dice < 68) return sharing();
        return cashing();
    }

    /** Caps that rise with the grades: those who claim again have room again, and there are many rounds. */
    private boolean climbingSetting(int grade) {
        if (grade < 0) {
            return agreed("setFund(10000000, 0, 0)", model.setFund(10000000, 0, 0), () -> fund.setFund(10000000, 0, 0));
        }
        int cap = scale * (grade + 1);
        return agreed("setGrade(" + grade + ", 1, " + cap + ")", model.setGrade(grade, 1, cap), () -> {
            fund.setGrade(grade, 1, cap);
            return 0;
        });
    }

    private boolean entering() {
        int grade = isClimbing ? Math.min(4, model.payments.size() / 22) : near(0, 4);
        int person = isClimbing && random.nextInt(10) > 0 ? personBelow(grade) : near(0, 29);
        boolean isFault = random.nextInt(100) < faults;
        int days = near(0, random.nextInt(2) == 0 ? 10 : 100);
        return agreed("claim(" + person + ", " + grade + ", " + isFault + ", " + days + ")",
            model.claim(person, grade, isFault, days), () -> fund.claim(person, grade, isFault, days));
    }

    private int personBelow(int grade) {
        for (int person = 0; person < 30; person++) {
            Claim c = model.of(person);
            if (c == null ? model.claims.size() < 24 : c.grade < grade) {
                return person;
            }
        }
        return near(0, 29);
    }

    private boolean passing() {
        int days = random.nextInt(3) == 0 ? near(1, 200) : random.nextInt(3) == 0 ? 30 + random.nextInt(2) : near(1, 8);
        return agreed("pass(" + days + ")", model.pass(days), () -> fund.pass(days));
    }

    private boolean changing() {
        int claim = near(0, model.claims.size() - 1);
        int dice = random.nextInt(100);
        for (Claim c : model.claims) {
            if (dice < 60 && (c.state == SettlementFund.FAULTY || c.state == SettlementFund.OBJECTED)) {
                claim = model.claims.indexOf(c);
                dice = c.state == SettlementFund.FAULTY ? 95 : 85;
            }
        }
        int chosen = claim;
        boolean isGood = random.nextBoolean();
        if (dice < 10) return agreed("deny(" + claim + ")", model.deny(claim), () -> fund.deny(chosen));
        if (dice < 80) return agreed("object(" + claim + ")", model.object(claim), () -> fund.object(chosen));
        if (dice < 90) return agreed("decide(" + claim + ", " + isGood + ")", model.decide(claim, isGood), () -> fund.decide(chosen, isGood));
        return agreed("cure(" + claim + ")", model.cure(claim), () -> fund.cure(chosen));
    }

    private boolean sharing() {
        int least = least();
        int want = model.round(least);
        if (want >= 0) rounds[want > 0 ? 0 : 1]++;
        if (want == STATE && !hasOpen() && model.payments.size() > 76) rounds[3]++;
        return agreed("round(" + least + ")", want, () -> fund.round(least));
    }

    private boolean hasOpen() {
        return model.payments.stream().anyMatch(p -> p.state == SettlementFund.OPEN);
    }

    private boolean cashing() {
        int payment = near(0, model.payments.size() - 1);
        for (Payment p : model.payments) {
            if (p.state == SettlementFund.OPEN && random.nextInt(100) < cashing) payment = model.payments.indexOf(p);
        }
        int chosen = payment;
        return agreed("cash(" + payment + ")", model.cash(payment), () -> fund.cash(chosen));
    }

    private boolean question() {
        int dice = random.nextInt(18);
        if (dice < 4) return askOfAll();
        if (dice < 9) return askOfClaim();
        if (dice < 12) return askOfPayment();
        if (dice == 12) {
            int person = near(0, 29);
            Claim c = model.of(person);
            int want = !Model.in(person, 0, 29) ? INDEX : c == null ? SettlementFund.NONE : model.claims.indexOf(c);
            return agreed("claimOf(" + person + ")", want, () -> fund.claimOf(person));
        }
        if (dice == 13) {
            int state = near(0, 3);
            int want = !Model.in(state, 0, 3) ? ARGUMENT : model.count(state);
            return agreed("count(" + state + ")", want, () -> fund.count(state));
        }
        int claim = near(0, model.claims.size() - 1);
        int least = least();
        int want = model.shareOf(claim, least);
        return agreed("shareOf(" + claim + ", " + least + ")", want, () -> fund.shareOf(claim, least))
            && agreed("shareBySorting(" + claim + ", " + least + ")", want, () -> fund.shareBySorting(claim, least));
    }

    private boolean askOfAll() {
        return agreed("today()", model.today, fund::today)
            && agreed("claims()", model.claims.size(), fund::claims)
            && agreed("moneyLeft()", model.moneyLeft(), fund::moneyLeft)
            && agreed("fee()", model.feeNow(), fund::fee)
            && agreed("payments()", model.payments.size(), fund::payments);
    }

    private boolean askOfClaim() {
        int claim = near(0, model.claims.size() - 1);
        Claim c = model.noClaim(claim) ? null : model.claims.get(claim);
        return agreed("stateOf(" + claim + ")", c == null ? INDEX : c.state, () -> fund.stateOf(claim))
            && agreed("gradeOf(" + claim + ")", c == null ? INDEX : c.grade, () -> fund.gradeOf(claim))
            && agreed("room(" + claim + ")", c == null ? INDEX : model.room(c), () -> fund.room(claim))
            && agreed("paidTo(" + claim + ")", c == null ? INDEX : model.paidTo(c), () -> fund.paidTo(claim));
    }

    private boolean askOfPayment() {
        int payment = near(0, model.payments.size() - 1);
        Payment p = Model.in(payment, 0, model.payments.size() - 1) ? model.payments.get(payment) : null;
        return agreed("paymentTo(" + payment + ")", p == null ? INDEX : model.claims.indexOf(p.claim), () -> fund.paymentTo(payment))
            && agreed("amountOf(" + payment + ")", p == null ? INDEX : p.amount, () -> fund.amountOf(payment))
            && agreed("paymentState(" + payment + ")", p == null ? INDEX : p.state, () -> fund.paymentState(payment));
    }
}
