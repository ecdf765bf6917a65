/**
 * The administrator of a settlement fund. The promises that it keeps are numbered in
 * ../shared/DOC.md; README.md tells how to use it.
 */
public final class SettlementFund {
    public static final int NONE = -1;
    public static final int GOOD = 0, FAULTY = 1, DENIED = 2, OBJECTED = 3;
    public static final int OPEN = 0, CASHED = 1, VOID = 2;

    private static final int PERSONS = 30;
    private static final int GRADES = 5;
    private static final int MOST_CLAIMS = 24;
    private static final int MOST_PAYMENTS = 100;
    private static final int MOST_SUM = 10000000;
    private static final int MOST_FEE = 500;
    private static final int MOST_EXPENSES = 1000000;
    private static final int MOST_POINTS = 100;
    private static final int MOST_CAP = 1000000;
    private static final int MOST_DAYS_TO_PASS = 200;
    private static final int MOST_DAYS_TO_CURE = 100;
    private static final int MOST_LEAST = 100000;
    private static final int DAYS_TO_CASH = 30;

    private int sum;
    private int feeInThousandths;
    private int expenses;
    private int day;
    private final int[] gradePoints = new int[GRADES];
    private final int[] gradeCap = new int[GRADES];
    private final ClaimBook claimBook = new ClaimBook();
    private final PaymentBook paymentBook = new PaymentBook();
    private final Sharing sharing = new Sharing();

    public SettlementFund() {
        for (int grade = 0; grade < GRADES; grade++) {
            gradePoints[grade] = 1;
            gradeCap[grade] = MOST_CAP;
        }
    }

    // ---- the fund

    public int setFund(int sum, int fee, int expenses) throws IllegalArgumentException, IllegalStateException {
        if (isOutside(sum, 0, MOST_SUM) || isOutside(fee, 0, MOST_FEE) || isOutside(expenses, 0, MOST_EXPENSES)) {
            throw new IllegalArgumentException("sum, fee or expenses is out of range");
        }
        mustHaveNoPayments();
        this.sum = sum;
        this.feeInThousandths = fee;
        this.expenses = expenses;
        return moneyLeft();
    }

    public void setGrade(int grade, int points, int cap)
            throws IndexOutOfBoundsException, IllegalArgumentException, IllegalStateException {
        if (isOutside(grade, 0, GRADES - 1)) {
            throw new IndexOutOfBoundsException("there is no such grade");
        }
        if (isOutside(points, 1, MOST_POINTS) || isOutside(cap, 1, MOST_CAP)) {
            throw new IllegalArgumentException("points or cap is out of range");
        }
        mustHaveNoPayments();
        gradePoints[grade] = points;
        gradeCap[grade] = cap;
    }

    public int pass(int days) throws IllegalArgumentException {
        if (isOutside(days, 1, MOST_DAYS_TO_PASS)) {
            throw new IllegalArgumentException("days is out of range");
        }
        // What is late on one of the days is late on the last of them too, and no day's denial
        // or voiding bears on another's: one look on the last day finds them all.
        day += days;
        claimBook.denyLate(day);
        paymentBook.voidLate(day);
        return day;
    }

    // ---- claims

    public int claim(int person, int grade, boolean isFault, int days)
            throws IndexOutOfBoundsException, IllegalArgumentException, IllegalStateException {
        if (isOutside(person, 0, PERSONS - 1) || isOutside(grade, 0, GRADES - 1)) {
            throw new IndexOutOfBoundsException("there is no such person or grade");
        }
        if (isOutside(days, 0, MOST_DAYS_TO_CURE)) {
            throw new IllegalArgumentException("days is out of range");
        }
        int known = claimBook.ofPerson[person];
        if (claimBook.has(known)) {
            claimBook.join(known, grade, isFault);
            return known;
        }
        if (!claimBook.hasPlace()) {
            throw new IllegalStateException("there is no place for another claim");
        }
        return claimBook.enter(person, grade, isFault ? FAULTY : GOOD, day + days);
    }

    public int cure(int claim) throws IndexOutOfBoundsException, IllegalStateException {
        mustBeClaim(claim);
        if (claimBook.state[claim] != FAULTY) {
            throw new IllegalStateException("the claim is not FAULTY");
        }
        claimBook.state[claim] = GOOD;
        return claimBook.deadline[claim] - day;
    }

    public int deny(int claim) throws IndexOutOfBoundsException, IllegalStateException {
        mustBeClaim(claim);
        int before = claimBook.state[claim];
        if (before != GOOD && before != FAULTY) {
            throw new IllegalStateException("the claim is neither GOOD nor FAULTY");
        }
        claimBook.state[claim] = DENIED;
        return before;
    }

    public int object(int claim) throws IndexOutOfBoundsException, IllegalStateException {
        mustBeClaim(claim);
        if (claimBook.state[claim] != DENIED || claimBook.wasObjected[claim]) {
            throw new IllegalStateException("the claim is not DENIED, or it was objected to before");
        }
        claimBook.state[claim] = OBJECTED;
        claimBook.wasObjected[claim] = true;
        return claimBook.tally(OBJECTED);
    }

    public int decide(int claim, boolean isGood) throws IndexOutOfBoundsException, IllegalStateException {
        mustBeClaim(claim);
        if (claimBook.state[claim] != OBJECTED) {
            throw new IllegalStateException("the claim is not OBJECTED");
        }
        claimBook.state[claim] = isGood ? GOOD : DENIED;
        return claimBook.tally(OBJECTED);
    }

    // ---- rounds

    public int round(int least) throws IllegalArgumentException, IllegalStateException {
        mustBeLeast(least);
        if (claimBook.tally(FAULTY) > 0 || claimBook.tally(OBJECTED) > 0) {
            throw new IllegalStateException("some claim is FAULTY or OBJECTED");
        }
        if (paymentBook.hasOpen()) {
            throw new IllegalStateException("some payment is OPEN");
        }
        if (moneyLeft() < 1) {
            throw new IllegalStateException("the money left is below 1");
        }
        shareMoneyLeft(least, false);
        int made = sharing.gainers();
        if (!paymentBook.hasPlacesFor(made)) {
            throw new IllegalStateException("there would be too many payments");
        }
        makePayments();
        return made;
    }

    public int cash(int payment) throws IndexOutOfBoundsException, IllegalStateException {
        mustBePayment(payment);
        if (paymentBook.state[payment] != OPEN) {
            throw new IllegalStateException("the payment is not OPEN");
        }
        paymentBook.state[payment] = CASHED;
        return paymentBook.amount[payment];
    }

    // ---- claims as they are

    public int today() {
        return day;
    }

    public int claims() {
        return claimBook.size;
    }

    public int claimOf(int person) throws IndexOutOfBoundsException {
        if (isOutside(person, 0, PERSONS - 1)) {
            throw new IndexOutOfBoundsException("there is no such person");
        }
        return claimBook.ofPerson[person];
    }

    public int stateOf(int claim) throws IndexOutOfBoundsException {
        mustBeClaim(claim);
        return claimBook.state[claim];
    }

    public int gradeOf(int claim) throws IndexOutOfBoundsException {
        mustBeClaim(claim);
        return claimBook.grade[claim];
    }

    public int room(int claim) throws IndexOutOfBoundsException {
        mustBeClaim(claim);
        int left = valueAt(gradeCap, claimBook.grade[claim]) - paymentBook.sumFor(claim);
        return left < 0 ? 0 : left;
    }

    public int paidTo(int claim) throws IndexOutOfBoundsException {
        mustBeClaim(claim);
        return paymentBook.sumFor(claim);
    }

    public int count(int state) throws IllegalArgumentException {
        if (isOutside(state, GOOD, OBJECTED)) {
            throw new IllegalArgumentException("state is out of range");
        }
        return claimBook.tally(state);
    }

    // ---- money as it is

    public int moneyLeft() {
        return sum - fee() - expenses - paymentBook.sumOfAll();
    }

    public int fee() {
        return (int) ((long) sum * feeInThousandths / 1000);
    }

    public int payments() {
        return paymentBook.size;
    }

    public int paymentTo(int payment) throws IndexOutOfBoundsException {
        mustBePayment(payment);
        return paymentBook.claim[payment];
    }

    public int amountOf(int payment) throws IndexOutOfBoundsException {
        mustBePayment(payment);
        return paymentBook.amount[payment];
    }

    public int paymentState(int payment) throws IndexOutOfBoundsException {
        mustBePayment(payment);
        return paymentBook.state[payment];
    }

    public int shareOf(int claim, int least) throws IndexOutOfBoundsException, IllegalArgumentException {
        return shareFor(claim, least, false);
    }

    public int shareBySorting(int claim, int least) throws IndexOutOfBoundsException, IllegalArgumentException {
        return shareFor(claim, least, true);
    }

    // ---- what several calls need

    private static boolean isOutside(int value, int lowest, int highest) {
        return value < lowest || value > highest;
    }

    private static int valueAt(int[] row, int index) {
        return index >= 0 && index < row.length ? row[index] : 0;
    }

    private void mustBeClaim(int claim) {
        if (!claimBook.has(claim)) {
            throw new IndexOutOfBoundsException("there is no such claim");
        }
    }

    private void mustBePayment(int payment) {
        if (!paymentBook.has(payment)) {
            throw new IndexOutOfBoundsException("there is no such payment");
        }
    }

    private void mustBeLeast(int least) {
        if (isOutside(least, 0, MOST_LEAST)) {
            throw new IllegalArgumentException("least is out of range");
        }
    }

    private void mustHaveNoPayments() {
        if (paymentBook.size > 0) {
            throw new IllegalStateException("there are payments");
        }
    }

    private int shareFor(int claim, int least, boolean isBySorting) {
        mustBeClaim(claim);
        mustBeLeast(least);
        shareMoneyLeft(least, isBySorting);
        return sharing.shareGivenTo(claim);
    }

    private void shareMoneyLeft(int least, boolean isBySorting) {
        sharing.clear();
        int money = moneyLeft();
        if (money < 1) {
            return;
        }
        for (int claim = 0; claim < claimBook.size; claim++) {
            if (takesPart(claim)) {
                sharing.add(claim, valueAt(gradePoints, claimBook.grade[claim]), room(claim));
            }
        }
        sharing.shareOut(money, least, isBySorting);
    }

    private boolean takesPart(int claim) {
        return claimBook.state[claim] == GOOD && room(claim) > 0 && !paymentBook.hasVoidFor(claim);
    }

    private void makePayments() {
        for (int claim = 0; claim < claimBook.size; claim++) {
            int amount = sharing.shareGivenTo(claim);
            if (amount > 0) {
                paymentBook.add(claim, amount, day);
            }
        }
    }

    /** The claims by their numbers, and the number of each person's claim. */
    private static final class ClaimBook {
        final int[] ofPerson = new int[PERSONS];
        final int[] grade = new int[MOST_CLAIMS];
        final int[] state = new int[MOST_CLAIMS];
        final int[] deadline = new int[MOST_CLAIMS];
        final boolean[] wasObjected = new boolean[MOST_CLAIMS];
        int size;

        ClaimBook() {
            for (int person = 0; person < PERSONS; person++) {
                ofPerson[person] = NONE;
            }
        }

        boolean has(int claim) {
            return claim >= 0 && claim < size;
        }

        boolean hasPlace() {
            return size < MOST_CLAIMS;
        }

        /** To be called only when there is a place. */
        int enter(int person, int itsGrade, int itsState, int itsDeadline) {
            int claim = size;
            ofPerson[person] = claim;
            grade[claim] = itsGrade;
            state[claim] = itsState;
            deadline[claim] = itsDeadline;
            size++;
            return claim;
        }

        void join(int claim, int newGrade, boolean isFault) {
            grade[claim] = Math.max(grade[claim], newGrade);
            if (!isFault && (state[claim] == FAULTY || state[claim] == DENIED)) {
                state[claim] = GOOD;
            }
        }

        void denyLate(int today) {
            for (int claim = 0; claim < size; claim++) {
                if (state[claim] == FAULTY && deadline[claim] < today) {
                    state[claim] = DENIED;
                }
            }
        }

        int tally(int wanted) {
            int found = 0;
            for (int claim = 0; claim < size; claim++) {
                if (state[claim] == wanted) {
                    found++;
                }
            }
            return found;
        }
    }

    /** The payments by their numbers. */
    private static final class PaymentBook {
        final int[] claim = new int[MOST_PAYMENTS];
        final int[] amount = new int[MOST_PAYMENTS];
        final int[] state = new int[MOST_PAYMENTS];
        final int[] dayMade = new int[MOST_PAYMENTS];
        int size;

        boolean has(int payment) {
            return payment >= 0 && payment < size;
        }

        boolean hasPlacesFor(int more) {
            return more <= MOST_PAYMENTS - size;
        }

        void add(int itsClaim, int itsAmount, int today) {
            if (hasPlacesFor(1)) {
                claim[size] = itsClaim;
                amount[size] = itsAmount;
                state[size] = OPEN;
                dayMade[size] = today;
                size++;
            }
        }

        void voidLate(int today) {
            for (int payment = 0; payment < size; payment++) {
                if (state[payment] == OPEN && today - dayMade[payment] > DAYS_TO_CASH) {
                    state[payment] = VOID;
                }
            }
        }

        boolean hasOpen() {
            for (int payment = 0; payment < size; payment++) {
                if (state[payment] == OPEN) {
                    return true;
                }
            }
            return false;
        }

        boolean hasVoidFor(int wanted) {
            for (int payment = 0; payment < size; payment++) {
                if (claim[payment] == wanted && state[payment] == VOID) {
                    return true;
                }
            }
            return false;
        }

        int sumFor(int wanted) {
            int total = 0;
            for (int payment = 0; payment < size; payment++) {
                if (claim[payment] == wanted && state[payment] != VOID) {
                    total += amount[payment];
                }
            }
            return total;
        }

        int sumOfAll() {
            int total = 0;
            for (int payment = 0; payment < size; payment++) {
                if (state[payment] != VOID) {
                    total += amount[payment];
                }
            }
            return total;
        }
    }

    /**
     * One sharing of money among claims that take part. A fund keeps a single one and fills it
     * anew for each sharing, so that a question makes no rows of its own.
     */
    private static final class Sharing {
        private final int[] claim = new int[MOST_CLAIMS];
        private final int[] points = new int[MOST_CLAIMS];
        private final int[] room = new int[MOST_CLAIMS];
        private final int[] share = new int[MOST_CLAIMS];
        private final boolean[] isFull = new boolean[MOST_CLAIMS];
        private int size;
        private long restMoney;
        private long restPoints;

        void clear() {
            size = 0;
        }

        void add(int itsClaim, int itsPoints, int itsRoom) {
            if (size < MOST_CLAIMS) {
                claim[size] = itsClaim;
                points[size] = itsPoints;
                room[size] = itsRoom;
                size++;
            }
        }

        void shareOut(int money, int least, boolean isBySorting) {
            if (isBySorting) {
                sortByRoomPerPoint();
            }
            for (int left = size; left > 0; left--) {
                shareOnce(money, isBySorting);
                int smallest = placeOfSmallest();
                if (smallest == NONE || share[smallest] >= least) {
                    return;
                }
                takeOut(smallest);
            }
        }

        int shareGivenTo(int wanted) {
            for (int i = 0; i < size; i++) {
                if (claim[i] == wanted) {
                    return share[i];
                }
            }
            return 0;
        }

        int gainers() {
            int found = 0;
            for (int i = 0; i < size; i++) {
                if (share[i] > 0) {
                    found++;
                }
            }
            return found;
        }

        private void shareOnce(int money, boolean isBySorting) {
            restMoney = money;
            restPoints = 0;
            for (int i = 0; i < size; i++) {
                isFull[i] = false;
                restPoints += points[i];
            }
            if (isBySorting) {
                fillFromFront();
            } else {
                fillInLooks();
            }
            shareRestByPoints();
        }

        /** Each look keeps the money and the points of its start: who is filled in it changes only the next. */
        private void fillInLooks() {
            boolean isSomeFilled = true;
            for (int look = 0; isSomeFilled && look <= size; look++) {
                long money = restMoney;
                long allPoints = restPoints;
                isSomeFilled = false;
                for (int i = 0; i < size; i++) {
                    if (!isFull[i] && reachesRoom(i, money, allPoints)) {
                        fill(i);
                        isSomeFilled = true;
                    }
                }
            }
        }

        /** Each one that is filled leaves the others no less per point: the first that falls short ends it. */
        private void fillFromFront() {
            for (int i = 0; i < size && reachesRoom(i, restMoney, restPoints); i++) {
                fill(i);
            }
        }

        private boolean reachesRoom(int i, long money, long allPoints) {
            return points[i] * money >= room[i] * allPoints;
        }

        private void fill(int i) {
            isFull[i] = true;
            share[i] = room[i];
            restMoney -= room[i];
            restPoints -= points[i];
        }

        private void shareRestByPoints() {
            if (restPoints < 1) {
                return;
            }
            long over = restMoney;
            for (int i = 0; i < size; i++) {
                if (!isFull[i]) {
                    share[i] = (int) (points[i] * restMoney / restPoints);
                    over -= share[i];
                }
            }
            for (int i = 0; i < size; i++) {
                if (!isFull[i] && notFullBelow(claim[i]) < over) {
                    share[i]++;
                }
            }
        }

        /** By numbers of claims, since the places are not in their order when they are sorted. */
        private int notFullBelow(int number) {
            int found = 0;
            for (int i = 0; i < size; i++) {
                if (!isFull[i] && claim[i] < number) {
                    found++;
                }
            }
            return found;
        }

        private int placeOfSmallest() {
            int found = NONE;
            for (int i = 0; i < size; i++) {
                if (found == NONE || share[i] < share[found]
                        || share[i] == share[found] && claim[i] > claim[found]) {
                    found = i;
                }
            }
            return found;
        }

        /** Keeps the order of the others: sorted places stay sorted. */
        private void takeOut(int place) {
            for (int i = place; i + 1 < size; i++) {
                copyPlace(i + 1, i);
            }
            size--;
        }

        private void copyPlace(int from, int to) {
            claim[to] = claim[from];
            points[to] = points[from];
            room[to] = room[from];
        }

        private void sortByRoomPerPoint() {
            for (int i = 1; i < size; i++) {
                for (int k = i; k > 0 && hasLessRoomPerPoint(k, k - 1); k--) {
                    swapPlaces(k, k - 1);
                }
            }
        }

        private boolean hasLessRoomPerPoint(int one, int other) {
            return (long) room[one] * points[other] < (long) room[other] * points[one];
        }

        private void swapPlaces(int one, int other) {
            int oneClaim = claim[one];
            int onePoints = points[one];
            int oneRoom = room[one];
            copyPlace(other, one);
            claim[other] = oneClaim;
            points[other] = onePoints;
            room[other] = oneRoom;
        }
    }
}
