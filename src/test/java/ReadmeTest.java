import java.io.IOException;
import java.nio.file.Files;
import java.nio.file.Path;
import java.util.List;

/** The example of README.md does what the README says of it. */
public final class ReadmeTest {
    public static void main(String[] args) throws IOException {
        example();
        everyLineIsHere();
        Check.finish("ReadmeTest");
    }

    private static void example() {
        LogBroker broker = new LogBroker();
        Check.due("add", true, () ->
                broker.add(5, 1, 10));
        Check.due("erase", true, () ->
                broker.erase(6, 2));
        int first = broker.produce(0, 3, 0);
        Check.due("produce", 0, () -> first);
        broker.add(5, 1, 10);
        broker.erase(6, 2);
        int before = broker.look(1);
        int again = broker.produce(0, 3, 0);
        Check.due("the same again", 0, () -> again);
        Check.due("nothing is appended", before, () -> broker.look(1));

        int n = broker.fetch(0, first, 8);
        Check.due("fetch", 2, () -> n);
        int key = broker.fetched(1, 2);
        Check.due("fetched", 2, () -> key);
        int late = broker.since(0, 6);
        Check.due("since", 1, () -> late);
        broker.commit(4, 0, first + n);
        int read = broker.committed(4, 0);
        Check.due("committed", 2, () -> read);

        Check.due("cut", true, () ->
                broker.cut(1));
        broker.add(7, 1, 11);
        Check.due("produce without power", Check.ISE, () ->
                broker.produce(0, 3, 2));
        Check.dueBytes("a part of the batch, in block 0", broker, 0, 23, 10, 2, 14, 3, 2, 1, 0, 0, 2);
        Check.dueBytes("the rest, in block 1", broker, 1, 0, 0, 0);
        int writes = broker.recover();
        Check.due("recover", 0, () -> writes);
        int next = broker.log(0, 1);
        Check.due("NEXT", 2, () -> next);
    }

    /** A line of the README's example that is not run here would be untested. */
    private static void everyLineIsHere() throws IOException {
        String here = Files.readString(Path.of("src/test/java/ReadmeTest.java"));
        List<String> lines = Files.readAllLines(Path.of("README.md"));
        int from = lines.indexOf("```java") + 1;
        int calls = 0;
        for (int i = from; i < lines.size() && !lines.get(i).equals("```"); i++) {
            String call = lines.get(i).replaceAll(" *//.*", "").replaceAll(";$", "");
            calls += call.isEmpty() ? 0 : 1;
            Check.due("is run here: " + call, true, () -> here.contains(" " + call));
        }
        int seen = calls;
        Check.due("the README has an example", true, () -> from > 0 && seen > 10);
    }
}
