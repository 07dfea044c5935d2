import java.io.IOException;
import java.nio.file.Files;
import java.nio.file.Path;
import java.util.ArrayList;
import java.util.List;

/** README.md's example answers what its comments say, and is the one that runs here. Run from the project's directory. */
public final class ReadmeTest {
    public static void main(String[] args) throws IOException {
        example();
        isTheOneOfReadme();
        Check.end();
    }

    private static void example() {
        LedgerMachine ledger = new LedgerMachine();

        // A CODE: octets come behind THE DRAFT, highest first; code() judges it and empties THE DRAFT.
        ledger.draft(4, 0x1B010106L);                 // ARGUMENT, PUSH 1, ADD
        ledger.draft(1, 0x24L);                       // RETURN
        int code = ledger.code();                     // 0; with a FAULT it would be -2 less its place

        // BLOCK 0's STATE, while it is the only BLOCK.
        ledger.endow(0, 1000000L, LedgerMachine.NONE);
        ledger.endow(1, 0L, code);

        // An ORDER: from, to, value, ARGUMENT, gas, price, NONCE. A BLOCK does what is drafted.
        ledger.order(0, 1, 5L, 41L, 500, 2, 0);
        int block = ledger.block(0, 9);               // on BLOCK 0, made by ACCOUNT 9
        long ends = ledger.receipt(block, 0, 0);      // 1: WELL
        long used = ledger.receipt(block, 0, 1);      // 28
        long answer = ledger.receipt(block, 0, 2);    // 42
        long balance = ledger.leaf(block, 32 * 1);    // 5, ACCOUNT 1's BALANCE

        // A view runs a CODE on a BLOCK's STATE; nothing stays of it.
        long viewed = ledger.view(block, 0, 1, 6L, 100);  // 7
        int frames = ledger.seen(2);                  // 1

        // A proof that LEAF 32 has this value in the STATE with this ROOT.
        for (int level = 0; level < 10; level++) {
            ledger.beside(level, ledger.digest(block, level, (32 >> level) ^ 1));
        }
        long root = ledger.digest(block, 10, 0);
        boolean isProved = ledger.proves(root, 32, balance);  // true

        // Five of seven VOTERS, of WEIGHT 1 each, make the BLOCK CERTAIN.
        for (int voter = 0; voter < 5; voter++) {
            ledger.vote(voter, block);                // 0, and 1 from the fifth on
        }
        int certain = ledger.certain(1);              // the BLOCK, at HEIGHT 1

        Check.same("code", code, 0);
        Check.same("ends", ends, 1);
        Check.same("used", used, 28);
        Check.same("answer", answer, 42);
        Check.same("balance", balance, 5);
        Check.same("viewed", viewed, 7);
        Check.same("frames", frames, 1);
        Check.same("isProved", isProved, true);
        Check.same("certain", certain, block);
        Check.same("a sixth vote", ledger.vote(5, block), 1);
    }

    private static void isTheOneOfReadme() throws IOException {
        List<String> here = trimmed("src/test/java/ReadmeTest.java");
        List<String> readme = trimmed("README.md");
        int begin = readme.indexOf("```java") + 1;
        List<String> behind = readme.subList(begin, readme.size());
        int size = behind.indexOf("```");
        Check.same("README.md has an example", begin > 0 && size > 0, true);
        if (begin > 0 && size > 0) {
            List<String> example = behind.subList(0, size);
            int first = here.indexOf(example.get(0));
            boolean isSame = first >= 0 && here.subList(first, first + size).equals(example);
            Check.same("README.md's example is the one that runs here", isSame, true);
        }
    }

    private static List<String> trimmed(String file) throws IOException {
        List<String> lines = new ArrayList<>();
        for (String line : Files.readAllLines(Path.of(file))) {
            lines.add(line.trim());
        }
        return lines;
    }
}
