import java.nio.file.Files;
import java.nio.file.Path;

/** README.md's own lines, run as they stand there, with the answers that it tells. */
public final class ReadmeTest {
    public static void main(String[] args) throws Exception {
        asItStands();
        everyLineIsHere();
        Due.end();
    }

    private static void asItStands() {
        HoopWaist x = new HoopWaist();
        int hoop = x.hoop(53);
        Due.same("hoop", hoop, 0);
        x.hoop(82);
        int falls = x.falls(hoop);
        Due.same("falls", falls, 16);
        int lasts = x.lasts();
        Due.same("lasts", lasts, 15);
        int beat = x.beatFor(0);
        Due.same("beat", beat, 300);
        x.mend(0, 4, beat / 100);
        x.mend(0, 5, beat % 100);
        int longer = x.lasts();
        Due.same("longer", longer, 24);
        int undone = x.undo();
        Due.same("undone", undone, 0);
        int again = x.redo();
        Due.same("again", again, 0);
        for (char c : "n<4?f+1;n>9?0-s/3".toCharArray()) {
            x.feed(c);
        }
        int law = x.law();
        Due.same("law", law, 1);
        int byLaw = x.lasts();
        Due.same("by the law", byLaw, 45);
        x.image();
        int upright = x.go(20);
        Due.same("upright", upright, 2);
        int pushes = x.led(0);
        Due.same("pushes", pushes, 7);
        x.back();
        Due.same("NOW", x.of(0, 15), 0);
        x.row(0, 0, 3);
        x.put(0, 0, 3);
        x.put(0, 1, 4);
        x.put(0, 2, 4);
        int music = x.music(0);
        Due.same("music", music, 15);
        x.skill(12, 12);
        int left = x.left(5, 3, -1);
        Due.same("left", left, 10);
        int last = x.last(5, 0);
        Due.same("last", last, 12);
        long above = x.alone(0, 3, 0);
        Due.same("above", above, 27);
        Due.same("below", x.alone(0, 3, 1), 64);
        int till = x.till(0, 12);
        Due.same("till", till, 30);
        int body = x.body(7);
        Due.same("body", body, 0);
        int acted = x.act(body, 1, 5);
        Due.same("acted", acted, 13);
        int first = x.trace(0);
        Due.same("first", first, 80);
        Due.same("how many ran", x.count(5), 8);
        x.keep(1, body);
        int kind = x.taken(1, 1);
        Due.same("kind", kind, 7);
    }

    /** The lines of README.md's Java, without what is said behind //, in their order. */
    private static void everyLineIsHere() throws Exception {
        String here = Files.readString(Path.of("src/test/java/ReadmeTest.java"));
        boolean java = false;
        int at = 0;
        int seen = 0;
        for (String line : Files.readAllLines(Path.of("README.md"))) {
            if (line.startsWith("```")) {
                java = line.equals("```java");
            } else if (java) {
                String code = line.replaceAll("//.*", "").trim();
                int next = here.indexOf(code, at);
                Due.holds(code + " is run", next >= 0);
                at = next < 0 ? at : next + code.length();
                seen++;
            }
        }
        Due.holds("there are lines", seen > 20);
    }
}
