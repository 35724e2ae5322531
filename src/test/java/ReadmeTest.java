import java.io.IOException;
import java.lang.reflect.Method;
import java.lang.reflect.Modifier;
import java.nio.file.Files;
import java.nio.file.Path;

/** What README.md shows is what the class answers. */
final class ReadmeTest {
    private ReadmeTest() {
    }

    public static void main(String[] args) throws IOException {
        example();
        namesEveryCall();
        Due.end();
    }

    /** The calls of the README's example, with the answers that stand behind them there. */
    private static void example() {
        WardrobeVault vault = new WardrobeVault();
        int shirt = vault.piece(1, 0, 2, 0, 103, 10);
        int singer = vault.body();
        vault.measure(singer, 7, 105, 100, 100);
        int opera = vault.show();
        vault.scene(opera, 30, 60);
        vault.wish(opera, 0, singer, 0, 2, 1);
        Due.is("the day", vault.pass(7), 7);
        Due.is("cost", vault.dress(opera), 130);
        Due.is("given", vault.given(opera, 0), shirt);
        Due.is("changed", vault.fit(opera), 1);
        Due.is("worn", vault.play(opera), 1);
        Due.is("clean", vault.told(shirt, 's'), 0);
        Due.is("washed", vault.wash(), 1);
    }

    private static void namesEveryCall() throws IOException {
        String readme = Files.readString(Path.of("README.md"));
        for (Method call : WardrobeVault.class.getDeclaredMethods()) {
            if (Modifier.isPublic(call.getModifiers())) {
                Due.isTrue("README.md names " + call.getName(), readme.contains("`" + call.getName() + "`"));
            }
        }
    }
}
