import java.io.IOException;

/** Each sentence of the document's terms by a test of its own, at the edges that it names. */
public final class SentencesOfTermsTest extends Checks {
    private static final int GOOD = SettlementFund.GOOD, FAULTY = SettlementFund.FAULTY;
    private static final int DENIED = SettlementFund.DENIED, OBJECTED = SettlementFund.OBJECTED;
    private static final int OPEN = SettlementFund.OPEN, CASHED = SettlementFund.CASHED, VOID = SettlementFund.VOID;
    private static Sentences document;

    public static void main(String[] args) throws IOException {
        document = new Sentences();
        whatItIs();
        amountsAndQuestions();
        theFund();
        claims();
        joining();
        days();
        payments();
        takingPart();
        sharing();
        leastSum();
        exceptions();
        constants();
        for (String heading : new String[] {"What it is", "Terms", "The fund", "Claims", "Payments", "Exceptions"}) {
            document.areAllTested(heading);
        }
        end("each sentence of the terms holds");
    }

    private static void whatItIs() {
        document.section("What it is");
        document.holds("The administrator of a settlement fund: claims of persons are graded, joined when the same person "
            + "claims again, cured by a deadline, denied and objected to; fees and expenses go first; the rest is shared by "
            + "points with caps, in rounds, where money that nobody cashed comes again.", () -> {
            SettlementFund x = new SettlementFund();
            x.setGrade(1, 3, 300);
            due("setFund", x.setFund(1000, 100, 50), 850);
            x.claim(4, 0, true, 7);
            x.claim(5, 0, false, 0);
            x.claim(5, 1, false, 0);
            x.claim(6, 0, false, 0);
            x.claim(7, 0, false, 0);
            x.deny(2);
            x.object(2);
            x.decide(2, true);
            x.deny(3);
            due("cure", x.cure(0), 7);
            due("round", x.round(0), 3);
            duePayments(x, 0, 275, 1, 300, 2, 275);
            x.cash(0);
            x.cash(1);
            x.pass(31);
            due("the next round", x.round(0), 1);
            duePayments(x, 0, 275, 1, 300, 2, 275, 0, 275);
            due("moneyLeft", x.moneyLeft(), 0);
        });
        document.holds("An object is used for at most 512 calls after it has been made; what later calls answer is free.", () -> {
            SettlementFund x = new SettlementFund();
            x.setFund(100, 0, 0);
            x.claim(0, 0, false, 0);
            x.round(0);
            for (int call = 4; call <= 503; call++) {
                due("pass", x.pass(200), (call - 3) * 200);
            }
            due("claim", x.claim(1, 0, true, 100), 1);
            due("cure so late", x.cure(1), 100);
            due("paymentState", x.paymentState(0), VOID);
            due("round so late", x.round(0), 1);
            due("pass", x.pass(30), 100030);
            due("paymentState", x.paymentState(1), OPEN);
            due("pass", x.pass(1), 100031);
            due("paymentState", x.paymentState(1), VOID);
            due("the last of 512 calls", x.moneyLeft(), 100);
        });
    }

    private static void amountsAndQuestions() {
        document.section("Terms");
        document.holds("Amounts are whole cents.", () -> {
            SettlementFund x = fundOf(1, 2);
            dueShares(x, 0, 1, 0);
            x.setFund(1001, 1, 0);
            due("fee", x.fee(), 1);
            dueShares(x, 0, 500, 500);
        });
        document.holds("Questions change nothing.", () -> {
            dueSame("questions of claims", Checks::fundOfEachState, () -> asked(fundOfEachState()));
            dueSame("questions of payments", Checks::fundOfEachPayment, () -> asked(fundOfEachPayment()));
            dueSame("questions of an empty fund", SettlementFund::new, () -> asked(new SettlementFund()));
        });
    }

    private static SettlementFund asked(SettlementFund x) {
        x.today();
        x.fee();
        x.moneyLeft();
        x.claimOf(0);
        x.claimOf(29);
        x.count(GOOD);
        x.count(OBJECTED);
        for (int claim = 0; claim < x.claims(); claim++) {
            x.stateOf(claim);
            x.gradeOf(claim);
            x.room(claim);
            x.paidTo(claim);
            x.shareOf(claim, 0);
            x.shareOf(claim, 100000);
            x.shareBySorting(claim, 0);
            x.shareBySorting(claim, 100000);
        }
        for (int payment = 0; payment < x.payments(); payment++) {
            x.paymentTo(payment);
            x.amountOf(payment);
            x.paymentState(payment);
        }
        return x;
    }

    private static void theFund() {
        document.section("The fund");
        document.holds("The fund has a sum, 0 at first, a fee in thousandths, 0 at first, and expenses, 0 at first.", () -> {
            SettlementFund x = new SettlementFund();
            due("fee", x.fee(), 0);
            due("moneyLeft", x.moneyLeft(), 0);
            due("thousandths of a sum", x.setFund(1000, 1, 0), 999);
            due("expenses of no sum", x.setFund(0, 0, 1), -1);
            due("all", x.setFund(1000, 250, 100), 650);
        });
        document.holds("The fee is the sum times these thousandths, divided by 1000 and rounded down.", () -> {
            SettlementFund x = new SettlementFund();
            int[][] sumFeeAndDue = {{999, 1, 0}, {1000, 1, 1}, {1001, 1, 1}, {1999, 1, 1}, {2000, 1, 2}, {1, 500, 0},
                {2, 500, 1}, {3, 500, 1}, {10000000, 0, 0}, {10000000, 500, 5000000}, {9999999, 500, 4999999}, {0, 500, 0}};
            for (int[] row : sumFeeAndDue) {
                due("setFund", x.setFund(row[0], row[1], 0), row[0] - row[2]);
                due("fee of " + row[0] + " by " + row[1], x.fee(), row[2]);
            }
        });
        document.holds("There are 5 grades, 0 to 4, each with points and a cap, 1 and 1000000 at first.", () -> {
            SettlementFund x = fundOf(10000000, 0);
            for (int grade = 0; grade < 5; grade++) {
                due("claim", x.claim(grade, grade, false, 0), grade);
                due("the cap at first", x.room(grade), 1000000);
            }
            dueShares(x, 0, 1000000, 1000000, 1000000, 1000000, 1000000);
            x.setFund(500, 0, 0);
            dueShares(x, 0, 100, 100, 100, 100, 100);
            x.setGrade(3, 6, 1000000);
            dueShares(x, 0, 50, 50, 50, 300, 50);
            dueThrows("grade 5", INDEX, () -> x.claim(9, 5, false, 0));
            dueThrows("grade -1", INDEX, () -> x.claim(9, -1, false, 0));
        });
        document.holds("Today is day 0 at first.", () -> {
            due("today", new SettlementFund().today(), 0);
            due("pass", new SettlementFund().pass(1), 1);
        });
    }

    private static void claims() {
        document.section("Claims");
        document.holds("There are up to 24 claims, numbered from 0.", () -> {
            SettlementFund x = new SettlementFund();
            for (int claim = 0; claim < 24; claim++) {
                due("claim", x.claim(claim + 6, 0, false, 0), claim);
            }
            dueThrows("the 25th", STATE, () -> x.claim(0, 0, false, 0));
            due("claims", x.claims(), 24);
            due("stateOf the last", x.stateOf(23), GOOD);
            dueThrows("stateOf one more", INDEX, () -> x.stateOf(24));
        });
        document.holds("A claim has a person, 0 to 29, a grade, and one of these states: GOOD; FAULTY, with a deadline, a day; "
            + "DENIED; OBJECTED.", () -> {
            SettlementFund x = fundOfEachState();
            dueStates(x, GOOD, FAULTY, DENIED, OBJECTED);
            for (int claim = 0; claim < 4; claim++) {
                due("claimOf", x.claimOf(claim), claim);
                due("gradeOf", x.gradeOf(claim), claim);
            }
            due("claim of the last person", x.claim(29, 0, true, 0), 4);
            due("claimOf the last person", x.claimOf(29), 4);
            x.pass(5);
            due("cure on the day of the deadline", x.cure(1), 0);
        });
    }

    private static void joining() {
        document.holds("A person has one claim at most: when one who has a claim claims again, the claim has the greater one of "
            + "both grades from then on;", () -> {
            int[][] gradesAndDue = {{0, 0, 0}, {0, 1, 1}, {1, 0, 1}, {4, 4, 4}, {0, 4, 4}, {4, 0, 4}, {2, 3, 3}, {3, 2, 3}};
            for (int[] row : gradesAndDue) {
                SettlementFund x = new SettlementFund();
                x.claim(1, row[0], false, 0);
                due("claim of another", x.claim(0, 0, false, 0), 1);
                due("claim again", x.claim(1, row[1], false, 0), 0);
                due("claims", x.claims(), 2);
                due("claimOf", x.claimOf(1), 0);
                due("gradeOf", x.gradeOf(0), row[2]);
                due("gradeOf the other's", x.gradeOf(1), 0);
            }
            SettlementFund all = fundOfEachState();
            for (int person = 0; person < 4; person++) {
                all.claim(person, 4, true, 0);
                due("gradeOf, of any state", all.gradeOf(person), 4);
            }
        });
        document.holds("if it was FAULTY or DENIED and the new one has no fault, it is GOOD;", () -> {
            SettlementFund x = fundOfEachState();
            x.claim(1, 0, false, 0);
            x.claim(2, 0, false, 100);
            dueStates(x, GOOD, GOOD, GOOD, OBJECTED);
            x.pass(200);
            dueStates(x, GOOD, GOOD, GOOD, OBJECTED);
        });
        document.holds("otherwise its state, and the deadline, stay as they are.", () -> {
            SettlementFund x = fundOfEachState();
            x.claim(0, 0, false, 0);
            x.claim(3, 0, false, 0);
            for (int person = 0; person < 4; person++) {
                x.claim(person, 0, true, person < 2 ? 0 : 100);
            }
            dueStates(x, GOOD, FAULTY, DENIED, OBJECTED);
            x.pass(3);
            x.claim(1, 0, true, 50);
            x.pass(2);
            dueStates(x, GOOD, FAULTY, DENIED, OBJECTED);
            x.pass(1);
            dueStates(x, GOOD, DENIED, DENIED, OBJECTED);
        });
    }

    private static void days() {
        document.holds("In each day that passes, today becomes 1 more;", () -> {
            SettlementFund x = new SettlementFund();
            due("pass(1)", x.pass(1), 1);
            due("pass(2)", x.pass(2), 3);
            due("today", x.today(), 3);
        });
        document.holds("then each claim that is FAULTY, and whose deadline is less than today, is DENIED;", () -> {
            SettlementFund x = fundOfEachState();
            x.claim(4, 0, true, 0);
            x.claim(5, 0, true, 1);
            x.claim(6, 0, true, 1);
            dueStates(x, GOOD, FAULTY, DENIED, OBJECTED, FAULTY, FAULTY, FAULTY);
            x.pass(1);
            dueStates(x, GOOD, FAULTY, DENIED, OBJECTED, DENIED, FAULTY, FAULTY);
            x.cure(6);
            x.pass(1);
            dueStates(x, GOOD, FAULTY, DENIED, OBJECTED, DENIED, DENIED, GOOD);
            x.pass(200);
            dueStates(x, GOOD, DENIED, DENIED, OBJECTED, DENIED, DENIED, GOOD);
        });
        document.holds("then each payment that is OPEN, and was made more than 30 days ago, is VOID.", () -> {
            SettlementFund x = fundOf(90, 3);
            x.pass(7);
            x.round(0);
            x.cash(1);
            x.pass(29);
            due("after 29 days", x.paymentState(0), OPEN);
            x.pass(1);
            due("after 30 days", x.paymentState(0), OPEN);
            x.pass(1);
            due("after 31 days", x.paymentState(0), VOID);
            due("the last one", x.paymentState(2), VOID);
            due("a CASHED one", x.paymentState(1), CASHED);
            due("round", x.round(0), 1);
            x.pass(30);
            due("of the second round, after 30 days", x.paymentState(3), OPEN);
            x.pass(200);
            due("of the second round, after 230 days", x.paymentState(3), VOID);
        });
    }

    private static void payments() {
        document.section("Payments");
        document.holds("A round makes payments, numbered from 0; there are up to 100.", () -> {
            SettlementFund x = fundOf90Payments(10);
            due("payments", x.payments(), 90);
            due("round up to 100", x.round(0), 10);
            due("payments", x.payments(), 100);
            due("paymentTo(0)", x.paymentTo(0), 0);
            due("paymentTo(90)", x.paymentTo(90), 0);
            due("paymentTo(99)", x.paymentTo(99), 9);
            dueThrows("round beyond 100", STATE, () -> fundOf90Payments(11).round(0));
        });
        document.holds("A payment is OPEN, CASHED or VOID.", () -> {
            SettlementFund x = fundOfEachPayment();
            due("paymentState(0)", x.paymentState(0), CASHED);
            due("paymentState(1)", x.paymentState(1), VOID);
            due("paymentState(2)", x.paymentState(2), OPEN);
        });
        document.holds("The money left is the sum of the fund, less the fee, less the expenses, less all payments that are not "
            + "VOID.", () -> {
            SettlementFund x = fundOfGrades(0, 1, 100, 1, 200);
            due("without payments", x.setFund(2000, 100, 300), 1500);
            x.round(0);
            due("less OPEN ones", x.moneyLeft(), 1200);
            x.cash(0);
            due("less a CASHED one", x.moneyLeft(), 1200);
            x.pass(31);
            due("but not a VOID one", x.moneyLeft(), 1400);
        });
        document.holds("The room of a claim is the cap of its grade less all its payments that are not VOID;", () -> {
            SettlementFund x = fundOfGrades(150, 1, 100, 1, 70, 1, 40);
            due("without payments", x.room(0), 100);
            x.round(0);
            due("less an OPEN one", x.room(0), 45);
            due("a full one", x.room(2), 0);
            x.cash(1);
            due("less a CASHED one", x.room(1), 15);
            x.pass(31);
            due("but not a VOID one", x.room(0), 100);
            due("nor this", x.room(2), 40);
            x.round(0);
            due("less those of two rounds", x.room(1), 0);
        });
        document.holds("0 if that is below 0.", () -> {
            SettlementFund x = fundOfGrades(170, 1, 100, 1, 70, 1, 99);
            x.deny(1);
            x.deny(2);
            x.round(0);
            due("at its cap", x.room(0), 0);
            x.claim(0, 2, false, 0);
            due("1 over its cap", x.room(0), 0);
            due("paidTo", x.paidTo(0), 100);
            x.cash(0);
            due("its share", x.shareOf(0, 0), 0);
        });
    }

    private static void takingPart() {
        document.holds("A claim takes part in a round if it is GOOD,", () -> {
            SettlementFund x = fundOfEachState();
            dueShares(x, 0, 1000, 0, 0, 0);
            x.cure(1);
            x.decide(3, true);
            dueShares(x, 0, 334, 333, 0, 333);
        });
        document.holds("its room is above 0,", () -> {
            SettlementFund x = fundOfGrades(1000, 1, 10, 1, 20, 1, 11);
            x.round(0);
            cashAll(x, 0, 3);
            dueShares(x, 0, 0, 0, 0);
            x.claim(0, 2, false, 0);
            dueShares(x, 0, 1, 0, 0);
            due("round", x.round(0), 1);
        });
        document.holds("and none of its payments is VOID.", () -> {
            SettlementFund x = fundOf(100, 2);
            x.round(0);
            x.cash(0);
            x.pass(31);
            due("room of the other", x.room(1), 1000000);
            dueShares(x, 0, 50, 0);
            x.round(0);
            x.pass(31);
            due("paidTo of one CASHED, one VOID", x.paidTo(0), 50);
            dueShares(x, 0, 0, 0);
            due("round of nobody", x.round(0), 0);
            x.claim(2, 0, false, 0);
            dueShares(x, 0, 0, 0, 50);
        });
    }

    private static void sharing() {
        document.holds("The money is shared among those that take part like this.", () -> {
            SettlementFund x = fundOfGrades(600, 1, 1000, 2, 1000, 3, 1000);
            dueShares(x, 0, 100, 200, 300);
            x.deny(1);
            dueShares(x, 0, 150, 0, 450);
            x.deny(0);
            dueShares(x, 0, 0, 0, 600);
            x.deny(2);
            dueShares(x, 0, 0, 0, 0);
        });
        document.holds("With M as the money and P as the sum of their points: each whose points * M is at least its room * P "
            + "gets its room;", () -> {
            dueShares(fundOfGrades(10, 2, 5, 1, 100, 1, 100), 0, 5, 3, 2);
            dueShares(fundOfGrades(99, 1, 25, 3, 1000), 0, 25, 74);
            dueShares(fundOfGrades(100, 1, 25, 3, 1000), 0, 25, 75);
            dueShares(fundOfGrades(101, 1, 25, 3, 1000), 0, 25, 76);
            dueShares(fundOfGrades(96, 1, 25, 3, 1000), 0, 24, 72);
            dueShares(fundOfGrades(100, 1, 26, 3, 1000), 0, 25, 75);
            dueShares(fundOfGrades(100, 1, 25, 3, 75), 0, 25, 75);
            dueShares(fundOfGrades(101, 1, 25, 3, 75), 0, 25, 75);
            dueShares(fundOfGrades(10000000, 100, 1000000, 1, 1), 0, 1000000, 1);
            dueShares(fundOfGrades(101, 50, 100, 50, 1000000), 0, 51, 50);
        });
        document.holds("as long as there were such, they are left out, and this is done again with the money less their rooms, "
            + "and the points of the others;", () -> {
            dueShares(fundOfGrades(125, 1, 90, 1, 35, 1, 28, 1, 10, 1, 1000), 0, 29, 29, 28, 10, 29);
            dueShares(fundOfGrades(150, 1, 10, 1, 35, 1, 1000, 1, 1000), 0, 10, 35, 53, 52);
            dueShares(fundOfGrades(100, 1, 1, 2, 40, 3, 200, 4, 30), 0, 1, 28, 41, 30);
            dueShares(fundOfGrades(1000, 5, 100, 4, 100, 3, 100, 2, 100, 1, 100), 0, 100, 100, 100, 100, 100);
            dueShares(fundOfGrades(110, 4, 10, 1, 100, 1, 100), 0, 10, 50, 50);
        });
        document.holds("then each of the others gets its points * M / P, rounded down,", () -> {
            dueShares(fundOfGrades(1000, 1, 1000, 2, 1000, 7, 1000), 0, 100, 200, 700);
            dueShares(fundOfGrades(7, 10, 1000, 3, 1000), 0, 6, 1);
            dueShares(fundOfGrades(9999999, 100, 1000000, 99, 1000000), 0, 1000000, 1000000);
            dueShares(fundOfGrades(1999999, 100, 1000000, 100, 1000000), 0, 1000000, 999999);
            dueShares(fundOfGrades(1000000, 99, 1000000, 100, 1000000, 98, 1000000), 0, 333334, 336700, 329966);
        });
        document.holds("and what is left of M then is given, 1 each, to these by rising numbers.", () -> {
            dueShares(fundOf(4, 5), 0, 1, 1, 1, 1, 0);
            dueShares(fundOf(1, 5), 0, 1, 0, 0, 0, 0);
            dueShares(fundOf(5, 5), 0, 1, 1, 1, 1, 1);
            dueShares(fundOf(13, 5), 0, 3, 3, 3, 2, 2);
            dueShares(fundOfGrades(14, 5, 4, 1, 100, 1, 100, 1, 100), 0, 4, 4, 3, 3);
            dueShares(fundOfGrades(15, 1, 100, 5, 4, 1, 100, 1, 100), 0, 4, 4, 4, 3);
            dueShares(fundOfGrades(11, 1, 100, 2, 100, 1, 100), 0, 3, 6, 2);
            SettlementFund backwards = new SettlementFund();
            backwards.setFund(5, 0, 0);
            backwards.claim(29, 0, false, 0);
            backwards.claim(0, 0, false, 0);
            dueShares(backwards, 0, 3, 2);
            due("all are at their rooms", fundOfGrades(50, 1, 10, 1, 20).round(0), 2);
        });
    }

    private static void leastSum() {
        document.holds("If the least sum of the round is above 0, and some share is less than that,", () -> {
            dueShares(fundOf(2, 3), 0, 1, 1, 0);
            dueShares(fundOf(2, 3), 1, 1, 1, 0);
            dueShares(fundOf(30, 3), 10, 10, 10, 10);
            dueShares(fundOf(29, 3), 10, 15, 14, 0);
            dueShares(fundOf(10000000, 1), 100000, 1000000);
            dueShares(fundOfGrades(10000000, 1, 100000), 100000, 100000);
            dueShares(fundOfGrades(10000000, 1, 99999), 100000, 0);
        });
        document.holds("the claim with the least share of all,", () -> {
            dueShares(fundOfGrades(60, 3, 1000, 1, 1000, 2, 1000), 11, 36, 0, 24);
            dueShares(fundOfGrades(60, 1, 1000, 2, 1000, 3, 1000), 11, 0, 24, 36);
            dueShares(fundOfGrades(60, 3, 9, 1, 1000, 2, 1000), 10, 0, 20, 40);
            dueShares(fundOfGrades(60, 1, 9, 2, 11, 3, 1000), 10, 0, 11, 49);
        });
        document.holds("of several the one with the highest number,", () -> {
            dueShares(fundOf(29, 3), 10, 15, 14, 0);
            dueShares(fundOf(28, 3), 10, 14, 14, 0);
            dueShares(fundOf(27, 3), 10, 14, 13, 0);
            dueShares(fundOfGrades(60, 1, 9, 2, 1000, 1, 9), 5, 9, 42, 9);
            dueShares(fundOfGrades(24, 1, 8, 1, 1000, 1, 1000), 9, 0, 24, 0);
            dueShares(fundOfGrades(100, 1, 20, 2, 20, 1, 60), 21, 0, 0, 60);
            dueShares(fundOfGrades(80, 2, 30, 1, 20, 4, 20, 1, 60), 20, 30, 20, 20, 0);
            dueShares(fundOfGrades(40, 1, 60, 2, 20), 21, 40, 0);
            dueShares(fundOfGrades(40, 2, 20, 1, 60), 21, 0, 0);
            dueShares(fundOfGrades(24, 1, 1000, 1, 8, 1, 1000), 9, 24, 0, 0);
        });
        document.holds("takes no part, and all is shared anew among the others;", () -> {
            dueShares(fundOfGrades(100, 1, 1000, 2, 30, 2, 1000), 24, 24, 30, 46);
            dueShares(fundOfGrades(100, 1, 1000, 2, 30, 2, 1000), 25, 0, 30, 70);
            dueShares(fundOfGrades(90, 1, 1000, 3, 60, 5, 1000), 12, 0, 34, 56);
            SettlementFund x = fundOf(29, 3);
            due("round", x.round(10), 2);
            duePayments(x, 0, 15, 1, 14);
        });
        document.holds("and so on, until no share is less, or nobody takes part.", () -> {
            dueShares(fundOf(100, 5), 30, 34, 33, 33, 0, 0);
            dueShares(fundOf(100, 5), 50, 50, 50, 0, 0, 0);
            dueShares(fundOf(100, 5), 100, 100, 0, 0, 0, 0);
            dueShares(fundOf(100, 5), 101, 0, 0, 0, 0, 0);
            dueShares(fundOf(100, 0), 1);
            SettlementFund x = fundOf(100, 5);
            due("round of nobody", x.round(101), 0);
            due("payments", x.payments(), 0);
            due("moneyLeft", x.moneyLeft(), 100);
        });
    }

    private static void exceptions() {
        document.section("Exceptions");
        document.holds("IndexOutOfBoundsException: there is no such grade, person, claim, payment or place.", () -> {
            SettlementFund x = fundOfEachPayment();
            for (int none : new int[] {-1, 5, Integer.MAX_VALUE, Integer.MIN_VALUE}) {
                dueThrows("setGrade", INDEX, () -> x.setGrade(none, 1, 1));
                dueThrows("claim of a grade", INDEX, () -> x.claim(0, none, false, 0));
            }
            for (int none : new int[] {-1, 30, Integer.MAX_VALUE, Integer.MIN_VALUE}) {
                dueThrows("claim of a person", INDEX, () -> x.claim(none, 0, false, 0));
                dueThrows("claimOf", INDEX, () -> x.claimOf(none));
            }
            for (int none : new int[] {-1, 3, 24, Integer.MAX_VALUE, Integer.MIN_VALUE}) {
                dueThrows("stateOf", INDEX, () -> x.stateOf(none));
                dueThrows("paymentState", INDEX, () -> x.paymentState(none));
            }
        });
        document.holds("IllegalArgumentException: another argument is out of its range.", () -> {
            SettlementFund x = fundOfEachState();
            for (int extreme : new int[] {-1, Integer.MAX_VALUE, Integer.MIN_VALUE}) {
                dueThrows("sum", ARGUMENT, () -> x.setFund(extreme, 0, 0));
                dueThrows("fee", ARGUMENT, () -> x.setFund(0, extreme, 0));
                dueThrows("expenses", ARGUMENT, () -> x.setFund(0, 0, extreme));
                dueThrows("points", ARGUMENT, () -> x.setGrade(0, extreme, 1));
                dueThrows("cap", ARGUMENT, () -> x.setGrade(0, 1, extreme));
                dueThrows("days to pass", ARGUMENT, () -> x.pass(extreme));
                dueThrows("days to cure", ARGUMENT, () -> x.claim(0, 0, true, extreme));
                dueThrows("least of round", ARGUMENT, () -> x.round(extreme));
                dueThrows("state", ARGUMENT, () -> x.count(extreme));
                dueThrows("least of shareOf", ARGUMENT, () -> x.shareOf(0, extreme));
                dueThrows("least of shareBySorting", ARGUMENT, () -> x.shareBySorting(0, extreme));
            }
        });
        document.holds("IllegalStateException: as the method tells.", () -> {
            SettlementFund x = fundOfEachState();
            dueThrows("cure a GOOD one", STATE, () -> x.cure(0));
            dueThrows("deny a DENIED one", STATE, () -> x.deny(2));
            dueThrows("object to a FAULTY one", STATE, () -> x.object(1));
            dueThrows("decide a DENIED one", STATE, () -> x.decide(2, true));
            dueThrows("round", STATE, () -> x.round(0));
            SettlementFund paid = fundOfEachPayment();
            dueThrows("cash a VOID one", STATE, () -> paid.cash(1));
            dueThrows("setFund", STATE, () -> paid.setFund(1, 0, 0));
            dueThrows("setGrade", STATE, () -> paid.setGrade(0, 1, 1));
            SettlementFund full = fundOf(0, 24);
            dueThrows("claim", STATE, () -> full.claim(24, 0, false, 0));
        });
        document.holds("If several apply, the one that is named first in the throws clause is thrown.", () -> {
            SettlementFund paid = fundOfEachPayment();
            dueThrows("setFund, range and state", ARGUMENT, () -> paid.setFund(0, 501, 0));
            dueThrows("setGrade, index, range and state", INDEX, () -> paid.setGrade(5, 0, 0));
            dueThrows("setGrade, index and state", INDEX, () -> paid.setGrade(5, 1, 1));
            dueThrows("setGrade, range and state", ARGUMENT, () -> paid.setGrade(0, 101, 1));
            dueThrows("round, range and state", ARGUMENT, () -> paid.round(100001));
            dueThrows("shareOf, index and range", INDEX, () -> paid.shareOf(3, 100001));
            dueThrows("shareBySorting, index and range", INDEX, () -> paid.shareBySorting(-1, -1));
            SettlementFund full = fundOf(0, 24);
            dueThrows("claim, person, range and state", INDEX, () -> full.claim(30, 0, false, 101));
            dueThrows("claim, grade, range and state", INDEX, () -> full.claim(24, 5, false, 101));
            dueThrows("claim, grade and state", INDEX, () -> full.claim(24, 5, false, 0));
            dueThrows("claim, range and state", ARGUMENT, () -> full.claim(24, 0, false, 101));
        });
        document.holds("A call that throws an exception changes nothing.", () -> {
            dueRefused(Checks::fundOfEachState, "setGrade", ARGUMENT, x -> x.setGrade(0, 1, 1000001));
            dueRefused(Checks::fundOfEachState, "pass", ARGUMENT, x -> x.pass(201));
            dueRefused(Checks::fundOfEachState, "claim that would join", ARGUMENT, x -> x.claim(1, 4, false, 101));
            dueRefused(Checks::fundOfEachState, "claim that would be new", INDEX, x -> x.claim(5, 5, false, 0));
            dueRefused(Checks::fundOfEachState, "round", STATE, x -> x.round(0));
            dueRefused(Checks::fundOfEachPayment, "setFund", STATE, x -> x.setFund(1000, 0, 0));
            dueRefused(Checks::fundOfEachPayment, "round", STATE, x -> x.round(0));
            dueRefused(() -> fundOf90Payments(11), "round beyond 100 payments", STATE, x -> x.round(0));
        });
    }

    private static void constants() {
        document.holds("The constants: `NONE = -1`: There is none.", () -> {
            due("NONE", SettlementFund.NONE, -1);
            due("claimOf", new SettlementFund().claimOf(0), -1);
        });
        document.holds("`GOOD = 0, FAULTY = 1, DENIED = 2, OBJECTED = 3`: States of claims.", () -> {
            dueStates(fundOfEachState(), 0, 1, 2, 3);
            due("GOOD", GOOD, 0);
            due("FAULTY", FAULTY, 1);
            due("DENIED", DENIED, 2);
            due("OBJECTED", OBJECTED, 3);
        });
        document.holds("`OPEN = 0, CASHED = 1, VOID = 2`: States of payments.", () -> {
            SettlementFund x = fundOfEachPayment();
            due("CASHED", x.paymentState(0), 1);
            due("VOID", x.paymentState(1), 2);
            due("OPEN", x.paymentState(2), 0);
            due("OPEN", OPEN, 0);
            due("CASHED", CASHED, 1);
            due("VOID", VOID, 2);
        });
    }
}
