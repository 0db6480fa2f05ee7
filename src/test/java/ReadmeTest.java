import java.io.IOException;
import java.nio.file.Files;
import java.nio.file.Path;

/** The examples of README.md; what they answer there in comments is what they answer here. */
public final class ReadmeTest extends TestKit {
    private static final String BLOCK_BEGINS = "```java\n";
    private static final String BLOCK_ENDS = "```\n";

    public static void main(String[] args) throws IOException {
        sumOfTwo();
        listOfBytes();
        examplesStandHere();
        finish();
    }

    private static void sumOfTwo() {
        CekMachine machine = new CekMachine();
        machine.node(6, 0);                  // BUILTIN 0, sum
        machine.node(7, 40);                 // INTEGER 40
        machine.node(2, 0);                  // APPLY of the two
        machine.node(7, 2);                  // INTEGER 2
        machine.node(2, 0);                  // APPLY
        int why = machine.run(1000, 100);    // 0: there is a result
        int kind = machine.kind();           // 0: an INTEGER
        long sum = machine.number();         // 42
        int steps = machine.look(4);         // 8

        due("run", why, 0);
        due("kind", kind, 0);
        due("number", sum, 42);
        due("look(4)", steps, 8);
    }

    private static void listOfBytes() {
        CekMachine lists = new CekMachine();
        lists.node(6, 28);                   // BUILTIN 28, a LIST with that ahead
        lists.node(0, 1);                    // VARIABLE 1, that of the innermost LAMBDA
        lists.node(2, 0);                    // APPLY
        lists.node(11, 0);                   // EMPTY
        lists.node(2, 0);                    // APPLY
        lists.node(1, 0);                    // LAMBDA of all that
        lists.node(6, 23);                   // BUILTIN 23, DATA of BYTES
        lists.bytes(0x0102, 2);              // BYTES 1, 2
        lists.more(0x03, 1);                 // and 3 behind them
        lists.node(2, 0);                    // APPLY of BUILTIN 23
        lists.node(2, 0);                    // APPLY of the LAMBDA
        int fault = lists.run(1000, 100);    // 0
        long nodes = lists.number();         // 2 NODES: the LIST, and what is in it
        int outer = lists.data(0, 0);        // 2: NODE 0 is a LIST
        int many = lists.data(1, 1);         // 3: NODE 1 has 3 bytes
        int third = lists.dataByte(1, 2);    // 3: the last of them

        due("run", fault, 0);
        due("number", nodes, 2);
        due("data(0, 0)", outer, 2);
        due("data(1, 1)", many, 3);
        due("dataByte(1, 2)", third, 3);
    }

    /** .ci/run starts the tests where README.md stands. */
    private static void examplesStandHere() throws IOException {
        String readme = Files.readString(Path.of("README.md"));
        String here = Files.readString(Path.of("src/test/java/ReadmeTest.java"));
        int examples = 0;
        int from = readme.indexOf(BLOCK_BEGINS);
        while (from >= 0) {
            int begin = from + BLOCK_BEGINS.length();
            String example = readme.substring(begin, readme.indexOf(BLOCK_ENDS, begin));
            examples++;
            due("example " + examples + " stands here", here.contains(example.indent(8)), true);
            from = readme.indexOf(BLOCK_BEGINS, begin);
        }
        due("examples", examples, 2);
    }
}
