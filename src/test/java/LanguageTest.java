import java.util.List;

/** The program keeps to ../shared/LANGUAGE.md, as far as that can be read off its text. */
public final class LanguageTest {
    public static void main(String[] args) {
        List<String> faults = ProgramText.faultsOf("src/main/java/GooseCodex.java");
        Due.due("faults", faults, List.of());
        Due.end();
    }
}
