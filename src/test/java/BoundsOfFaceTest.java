import java.io.IOException;
import java.lang.reflect.Method;
import java.lang.reflect.Modifier;
import java.nio.file.Files;
import java.nio.file.Path;
import java.util.ArrayList;
import java.util.Collections;
import java.util.List;

/** What stands around the promises: What it is, The public face, Not promised. */
public final class BoundsOfFaceTest {
    private static final int NONE = HungerBooks.NONE;
    private static final int CALLS = 512;

    public static void main(String[] args) throws IOException {
        goodsAndCards();
        ticketsAndDeliveries();
        hungerAndWays();
        useOfAnObject();
        face(Files.readString(Path.of(System.getProperty("hungerbooks.source", "src/main/java/HungerBooks.java"))));
        promisedFaces();
        notPromised();
        Sentences.end("BoundsOfFaceTest");
    }

    /** FARM 0 and a HOUSE of three with 100 coins, whose KIN it is. */
    private static HungerBooks small() {
        HungerBooks x = new HungerBooks();
        x.farm(0, 0);
        x.house(0, 3, 100, 0, 0);
        return x;
    }

    private static void goodsAndCards() {
        Sentences.whatItIs();
        Sentences.holds("A hungry land's books: goods in lots that are led from farm to table hand by hand", () -> {
            HungerBooks x = small();
            x.crop(0, 0, 10);
            x.deliver(0, 6);
            x.buy(0, 0, 4, true);
            Due.due("hands", x.lotOf(2, 10), 2);
            x.pass(1);
            int[] led = {4, 2, 0, 0, 4, 0};
            for (int what = 0; what < 6; what++) Due.due("led " + what, x.led(0, what), led[what]);
        });
        Sentences.holds("cards by orders in a text that are known by days", () -> {
            HungerBooks x = small();
            x.pass(2);
            Due.tell(x, "card bread mouths*2;", 0);
            Due.due("ahead of the day", x.card(0, 0, 0, 1), 0);
            Due.due("from the day on", x.card(0, 0, 0, 2), 6);
        });
        Sentences.holds("houses whose dead the office hears of late", () -> {
            HungerBooks x = small();
            x.die(0);
            x.pass(3);
            x.hear(0);
            Due.due("really", x.mouths(0, 0, NONE), 2);
            Due.due("a day too early", x.mouths(0, 0, 2), 3);
            Due.due("heard of", x.mouths(0, 0, 3), 2);
        });
    }

    private static void ticketsAndDeliveries() {
        Sentences.holds("tickets used, forged and drawn for the dead", () -> {
            HungerBooks x = small();
            Due.tell(x, "card bread mouths*2;price bread 1;", 0);
            x.deliver(x.crop(0, 0, 20), 20);
            x.die(0);
            Due.due("on tickets", x.buy(0, 0, 6, false), 6);
            Due.due("one more", x.buy(0, 0, 1, false), -3);
            Due.due("forged", x.buy(0, 0, 5, true), 5);
            Due.due("forged ones", x.houseOf(0, 5), 5);
            Due.due("false ones", x.fake(0, 0, 0, 0), 5);
            Due.due("for the dead", x.dead(0, 0, 0), 2);
        });
        Sentences.holds("deliveries against quotas and fields", () -> {
            HungerBooks x = small();
            Due.tell(x, "quota oil came-1;", 0);
            x.deliver(x.crop(0, 3, 9), 5);
            x.field(0, 3, 7, 11);
            Due.due("short", x.shortOf(0, 0, 3, 0), 3);
            Due.due("elsewhere at least", x.elsewhere(0, 3, 0, 0, 0), 2);
            Due.due("elsewhere at most", x.elsewhere(0, 3, 0, 0, 1), 6);
        });
        Sentences.holds("parcels from kin", () -> {
            HungerBooks x = small();
            x.house(0, 1, 0, NONE, 0);
            x.crop(0, 3, 9);
            Due.due("to its kin", x.lotOf(x.parcel(0, 5, 0), 4), 4);
            Due.due("to another house", x.parcel(0, 1, 1), NONE);
        });
        Sentences.holds("seizures", () -> {
            HungerBooks x = small();
            x.crop(0, 3, 9);
            x.deal(0, 4, 0, 30);
            Due.due("to the police", x.lotOf(x.seize(1), 2), 300);
            Due.due("fined", x.coins(0), 20);
        });
    }

    private static void hungerAndWays() {
        Sentences.holds("what each house ate and lacked by days and who fell ill", () -> {
            HungerBooks x = small();
            x.house(0, 1, 0, NONE, 0);
            x.crop(0, 3, 9);
            x.deal(0, 9, 0, 0);
            x.pass(4);
            Due.due("ate", x.houseOf(0, 1), 2700);
            int[] lacks = {300, 3000, 3000, 3000};
            for (int day = 0; day < 4; day++) Due.due("lack of day " + day, x.lack(0, day), lacks[day]);
            Due.due("ill days of the one", x.houseOf(0, 3), 1);
            Due.due("ill days of the other", x.houseOf(1, 3), 1);
            x.pass(1);
            Due.due("and on", x.houseOf(0, 3) + x.houseOf(1, 3), 4);
        });
        Sentences.holds("exchange at two rates by rounds that gain", () -> {
            HungerBooks x = new HungerBooks();
            x.exchange(0, 1, 2, 3);
            x.exchange(1, 0, 3, 2);
            Due.due("no gain", x.round(0, 0), NONE);
            x.exchange(1, 0, 4, 3);
            Due.due("a gain", x.round(0, 0), 1125);
        });
        Sentences.holds("ways past posts that stand on some days", () -> {
            HungerBooks x = new HungerBooks();
            x.road(0, 1, 5);
            x.post(1, 0, 3, 2);
            for (int day = 0; day < 7; day++) Due.due("posts on day " + day, x.way(day, 0, 1, 0), day % 3 == 2 ? 1 : 0);
        });
        Sentences.holds("weeks of a town's stock planned so that the fewest fall ill.", () -> {
            HungerBooks x = new HungerBooks();
            x.house(0, 1, 0, NONE, 0);
            Due.due("ill", x.plan(0, 2, 9800, 0), 1);
            Due.due("left", x.plan(0, 2, 9800, 1), 2800);
            Due.due("the first week", x.plan(0, 2, 9800, 10), 1);
            Due.due("the second week", x.plan(0, 2, 9800, 11), 0);
        });
    }

    private static void useOfAnObject() {
        Sentences.useOfAnObject();
        Sentences.holds("An object is used for at most 512 calls after it has been made; what later calls answer is free.", () -> {
            HungerBooks x = new HungerBooks();
            x.farm(0, 0);
            for (int k = 1; k < CALLS - 1; k++) x.crop(0, k % 6, 1 + k);
            Due.due("the 512th call", x.lotOf(399, 9), 401);
        });
    }

    /** The source has each member as the document writes it, and no other public one. */
    private static void face(String source) {
        Sentences.publicFace();
        String text = Sentences.text();
        Sentences.holds("public final class HungerBooks {", () ->
            Due.due("the class", source.contains("\npublic final class HungerBooks {\n"), true));
        int members = 0;
        for (String part : text.substring(text.indexOf('{') + 1, text.indexOf('}')).split(";")) {
            String member = part.trim();
            if (member.isEmpty()) continue;
            members++;
            String head = "\n    " + member + (member.endsWith(")") ? " {\n" : ";\n");
            Sentences.holds(member + ";", () -> Due.due(member + " stands in the source", source.contains(head), true));
        }
        Due.due("public members", source.split("\n    public ", -1).length - 1, members);
        for (Method m : HungerBooks.class.getDeclaredMethods()) {
            Due.due(m + " is public and static", Modifier.isStatic(m.getModifiers()) && Modifier.isPublic(m.getModifiers()), false);
        }
    }

    /** Each promise tells of the member that stands in its place of the face (the constant is ahead of them). */
    private static void promisedFaces() {
        String text = Sentences.text();
        String[] members = text.substring(text.indexOf('{') + 1, text.indexOf('}')).split(";");
        for (int n = 1; n <= 38; n++) {
            String promise = Sentences.wholePromise(n);
            String told = promise.substring(promise.indexOf('`') + 1, promise.indexOf("`: "));
            Due.due("promise " + n + " is of " + told, members[n].trim().equals("public " + told), true);
        }
    }

    private static void notPromised() {
        Sentences.notPromised();
        Sentences.holds("How the state is held inside the object is free, as are the speed of each call, the text of toString and"
            + " the behaviour of equals and hashCode.", () -> {
            for (String name : new String[] {"toString", "equals", "hashCode"}) {
                for (Method m : HungerBooks.class.getDeclaredMethods()) Due.due(m + "", m.getName().equals(name), false);
            }
        });
        Sentences.holds("Use of one object from several threads at once is not promised to be safe.",
            BoundsOfFaceTest::objectsOfTheirOwn);
        Sentences.holds("Nothing is promised beyond the answers and state changes described above", () ->
            Answers.unchanged("questions", Answers::land, BoundsOfFaceTest::ask, 0));
        Sentences.holds("nothing about an object after its 512th call.", () -> {
            HungerBooks x = small();
            for (int k = 2; k < CALLS - 1; k++) x.feed(k, k, k, k, k);
            Due.due("the 512th call", x.count(9), 500);
        });
    }

    /** Threads with an object each do not touch one another: there is no state but an object's. */
    private static void objectsOfTheirOwn() {
        List<Long> alone = Answers.of(Answers::land);
        List<List<Long>> together = Collections.synchronizedList(new ArrayList<>());
        List<Thread> threads = new ArrayList<>();
        for (int k = 0; k < 4; k++) threads.add(new Thread(() -> together.add(Answers.of(Answers::land))));
        for (Thread thread : threads) thread.start();
        for (Thread thread : threads) {
            try {
                thread.join();
            } catch (InterruptedException thrown) {
                throw new IllegalStateException(thrown);
            }
        }
        Due.due("threads that answered", together.size(), 4);
        for (List<Long> answers : together) Due.due("answers of a thread are as alone", answers.equals(alone), true);
    }

    /** Each question that the face has. */
    private static long ask(HungerBooks x) {
        x.mouths(0, 3, 0);
        x.fault();
        x.rule(0, 399, 10);
        x.card(0, 0, 0, 399);
        x.quota(0, 0, 4, 399);
        x.lotOf(1, 1);
        x.led(0, 2);
        x.coins(100);
        x.houseOf(0, 4);
        x.lack(0, 0);
        x.fake(0, 0, 0, 399);
        x.dead(0, 0, 0);
        x.shortOf(0, 0, 4, 399);
        x.elsewhere(0, 4, 0, 9, 1);
        x.round(0, 0);
        x.way(2, 0, 2, 1);
        x.plan(0, 8, 99999999, 17);
        x.judge(0, 8, 99999999, 999, 0);
        x.count(8);
        return 0;
    }
}
