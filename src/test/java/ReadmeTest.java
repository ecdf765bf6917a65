import java.io.IOException;
import java.nio.file.Files;
import java.nio.file.Path;
import java.util.ArrayList;
import java.util.List;

/** Each call of README.md's example stands there in this order, and answers the number that stands behind it. */
public final class ReadmeTest extends Checks {
    private static final SettlementFund fund = new SettlementFund();
    private static List<String> example;
    private static int next = 0;

    public static void main(String[] args) throws IOException {
        example = exampleOf(Files.readString(Path.of("README.md")));
        about("README.md");
        stands("SettlementFund fund = new SettlementFund();", "");
        answers("fund.setFund(100000, 100, 5000);", fund.setFund(100000, 100, 5000));
        fund.setGrade(1, 3, 40000);
        stands("fund.setGrade(1, 3, 40000);", "//");
        answers("fund.claim(5, 0, false, 0);", fund.claim(5, 0, false, 0));
        answers("fund.claim(6, 0, true, 10);", fund.claim(6, 0, true, 10));
        answers("fund.claim(6, 1, true, 0);", fund.claim(6, 1, true, 0));
        answers("fund.claim(7, 0, false, 0);", fund.claim(7, 0, false, 0));
        answers("fund.deny(2);", fund.deny(2));
        answers("fund.object(2);", fund.object(2));
        answers("fund.decide(2, true);", fund.decide(2, true));
        answers("fund.pass(3);", fund.pass(3));
        answers("fund.cure(1);", fund.cure(1));
        answers("fund.shareOf(1, 0);", fund.shareOf(1, 0));
        answers("fund.shareOf(2, 30000);", fund.shareOf(2, 30000));
        answers("fund.round(0);", fund.round(0));
        answers("fund.cash(0);", fund.cash(0));
        answers("fund.cash(1);", fund.cash(1));
        answers("fund.pass(31);", fund.pass(31));
        answers("fund.moneyLeft();", fund.moneyLeft());
        answers("fund.round(0);", fund.round(0));
        answers("fund.paymentTo(3);", fund.paymentTo(3));
        answers("fund.paidTo(0);", fund.paidTo(0));
        due("lines of the example that were called", next, example.size());
        end("README.md's example answers as it says");
    }

    private static List<String> exampleOf(String readme) {
        List<String> lines = new ArrayList<>();
        boolean isInside = false;
        for (String line : readme.split("\n")) {
            if (line.startsWith("```")) {
                isInside = line.equals("```java");
            } else if (isInside) {
                lines.add(line);
            }
        }
        return lines;
    }

    private static void answers(String call, int answer) {
        stands(call, "// " + answer + ":");
    }

    private static void stands(String call, String behind) {
        String line = next < example.size() ? example.get(next) : "";
        next++;
        if (!line.startsWith(call) || !line.substring(call.length()).trim().startsWith(behind)) {
            fault("the example says \"" + line + "\", due is: " + call + " " + behind);
        }
    }
}
