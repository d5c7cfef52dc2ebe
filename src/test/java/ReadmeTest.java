import java.io.IOException;
import java.nio.charset.StandardCharsets;
import java.nio.file.Files;
import java.nio.file.Path;
import java.util.ArrayList;
import java.util.List;
import java.util.regex.Matcher;
import java.util.regex.Pattern;

/** The example of README.md answers what its comments say, and its lines are those that run here. */
public final class ReadmeTest {
    private static final Pattern TOLD = Pattern.compile("^\\w+ \\w+ = (bank\\..*); *// (\\d+)\\b.*$");

    public static void main(String[] args) throws IOException {
        IdleMoney bank = new IdleMoney();
        List<String> ran = new ArrayList<>();
        bank.feed(0x6c616e64, 0x20612030, 0x20302030, 0x20313b73, 0x6c656570);
        bank.feed(0x20626f78, 0x20612034, 0x3b000000, 0, 0);
        ran.add("bank.text(29) " + bank.text(29));
        Bank.same("fault()", bank.fault(), IdleMoney.NONE);
        ran.add("bank.open(4, 0, IdleMoney.NONE, 1000) " + bank.open(4, 0, IdleMoney.NONE, 1000));
        ran.add("bank.soon(account) " + bank.soon(0));
        ran.add("bank.months(12) " + bank.months(12));
        ran.add("bank.purse(0, 0) " + bank.purse(0, 0));
        ran.add("bank.claim(account) " + bank.claim(0));
        ran.add("bank.undo() " + bank.undo());
        Bank.same("the account's state", bank.account(0, 4), 2);
        Bank.alike("the lines of README.md", told(Path.of("README.md")).toString(), ran.toString());
        fedAsTold();
        Bank.end("ReadmeTest");
    }

    /** The calls of the example with the answers that stand behind them. */
    private static List<String> told(Path page) throws IOException {
        List<String> told = new ArrayList<>();
        for (String line : Files.readAllLines(page, StandardCharsets.US_ASCII)) {
            Matcher found = TOLD.matcher(line);
            if (found.matches()) {
                told.add(found.group(1) + " " + found.group(2));
            }
        }
        return told;
    }

    private static void fedAsTold() {
        String text = "land a 0 0 0 1;sleep box a 4;";
        Bank.same("bytes of the example", text.length(), 29);
        int[] five = Bank.five(text, 0);
        int[] next = Bank.five(text, 20);
        int[] want = {0x6c616e64, 0x20612030, 0x20302030, 0x20313b73, 0x6c656570};
        int[] wantNext = {0x20626f78, 0x20612034, 0x3b000000, 0, 0};
        for (int i = 0; i < 5; i++) {
            Bank.same("number " + i, want[i], five[i]);
            Bank.same("number " + (i + 5), wantNext[i], next[i]);
        }
    }
}
