import java.io.IOException;
import java.nio.file.Files;
import java.nio.file.Path;
import java.util.Set;
import java.util.TreeSet;

/** For each sentence of the document that names a boundary case, a case of its own. */
public final class BoundaryTest {
    private static final Path DOCUMENT = Path.of("../shared/DOC.md");

    private BoundaryTest() { }

    public static void main(String[] args) throws IOException {
        String document = Files.exists(DOCUMENT) ? Files.readString(DOCUMENT) : "";
        Set<Integer> promises = new TreeSet<>();
        Class<?>[] all = {BuyerCases.class, LawCases.class, ThoughtCases.class, SeenCases.class, DeedCases.class,
            ShelfCases.class};
        for (Class<?> cases : all) {
            Cases.run(cases, promises, document);
        }
        int without = 0;
        for (int promise = 1; promise <= 39; promise++) {
            if (!promises.contains(promise)) {
                without++;
                System.out.println("promise " + promise + " has no boundary case");
            }
        }
        System.out.println(Cases.cases() + " boundary cases, " + Cases.broken() + " of them broken");
        System.exit(Cases.broken() == 0 && without == 0 ? 0 : 1);
    }
}
