import java.io.IOException;
import java.lang.reflect.Method;
import java.lang.reflect.Modifier;
import java.nio.charset.StandardCharsets;
import java.nio.file.Files;
import java.nio.file.Path;

/** What README.md says of use: each example answers as told there, and each call is named. */
public final class ReadmeTest {
    private static final Check CHECK = new Check();

    public static void main(String[] args) throws IOException {
        examples();
        texts();
        refusals();
        callsNamed();
        CHECK.finish("ReadmeTest");
    }

    private static void examples() {
        TallySticks x = new TallySticks();
        int ann = x.person(100);
        int bob = x.person(50);
        int s = x.stick(ann, bob, 60, 5, 0, 0);
        CHECK.due("call", x.call(s), 60);
        CHECK.due("bob's purse", x.of(bob, 0), 110);
        CHECK.due("undo", x.undo(), 1);
        CHECK.due("ring", x.ring(0), TallySticks.NONE);
        CHECK.due("feed", x.feed(0x63616c6c, 0x20302069, 0x66206461, 0x793d303b, 0x70617373), 20);
        CHECK.due("end", x.end(20), 20);
        CHECK.due("orders", x.orders(), 2);
        CHECK.due("it was called", x.at(s, 6), 1);
        CHECK.due("it passed", x.count(13), 1);
    }

    private static void texts() {
        TallySticks x = Check.pair(200, 0, 60);
        x.person(9);
        CHECK.due("the law", Check.law(x, "pays sum + late; wears 0; bars if to = 2 and kind = 1"), 0);
        CHECK.due("not in force yet", x.at(0, 8), 2);
        CHECK.due("which was", x.force(0), TallySticks.NONE);
        CHECK.due("no refusal", x.status(), 0);
        CHECK.due("in force", x.at(0, 8), 0);
        CHECK.due("the orders", Check.orders(x, "pass times 5; shave 0 by purse 2 if day = 5; call 0"), 7);
        CHECK.due("60 less 9, and five days", 200 - x.of(0, 0), 9 + 51 + 5);
        CHECK.due("one that can't be", Check.orders(x, "pass; call 0"), -3);
        CHECK.due("which", x.stopped(), 1);
        CHECK.due("nothing of it was run", x.count(13), 5);
    }

    /** Refused law() and orders() empty the TAPE and set fault(), stopped(); a law() without room is not read. */
    private static void refusals() {
        TallySticks x = Check.pair(10, 0, 60);
        CHECK.due("a fault", Check.law(x, "pays ?"), -6);
        CHECK.due("its place", x.fault(), 5);
        CHECK.due("no bytes left", x.count(6), 0);
        CHECK.due("can't be", Check.orders(x, "call 0"), -3);
        CHECK.due("read without fault", x.fault(), TallySticks.NONE);
        CHECK.due("where it stopped", x.stopped(), 0);
        CHECK.due("no bytes left behind orders", x.count(6), 0);
        CHECK.due("orders with a fault", Check.orders(x, "call"), -6);
        CHECK.due("its place in orders", x.fault(), 4);
        CHECK.due("where none stopped", x.stopped(), TallySticks.NONE);
        for (int i = 0; i < 6; i++) {
            CHECK.due("law " + i, Check.law(x, "wears 1"), i);
        }
        Check.orders(x, "pass ?");
        CHECK.due("no room", Check.law(x, "wears"), -5);
        CHECK.due("fault() is that of the orders", x.fault(), 5);
        CHECK.due("no bytes left without room", x.count(6), 0);
    }

    private static void callsNamed() throws IOException {
        String page = Files.readString(Path.of("README.md"), StandardCharsets.ISO_8859_1);
        for (Method m : TallySticks.class.getDeclaredMethods()) {
            if (Modifier.isPublic(m.getModifiers())) {
                CHECK.so(m.getName() + " is named", page.contains("`" + m.getName() + "`"));
            }
        }
    }
}
