/**
 * All that can be seen of an object but trouble() and where(), as one text. Some of it can be seen
 * only by changing it, so a picture uses its object up; it takes fewer than 400 of the 512 calls.
 */
final class Picture {
    private final LevelBits x;
    private final StringBuilder told = new StringBuilder();

    private Picture(LevelBits x) {
        this.x = x;
    }

    static String of(LevelBits x) {
        Picture picture = new Picture(x);
        picture.takeText();
        picture.takeRun("run");
        picture.takeSeed("seed");
        picture.takeImage(0);
        picture.takeImage(1);
        picture.takeTape();
        return picture.told.toString();
    }

    /** Of the run alone, without using the object up. */
    static String ofRun(LevelBits x) {
        Picture picture = new Picture(x);
        picture.takeRun("run");
        return picture.told.toString();
    }

    private void put(String what, long answer) {
        told.append(' ').append(what).append('=').append(answer);
    }

    private void takeText() {
        put("bytes", x.bytes());
        put("fault", x.fault());
        put("loops", x.about(0));
        put("waves", x.about(1));
        for (int i = 0; i < 4; i++) {
            for (int what = 0; what < 7; what++) {
                put("loop" + i + what, x.loop(i, what));
            }
            for (int what = 0; what < 4; what++) {
                put("wave" + i + what, x.wave(i, what));
            }
            put("level" + i, x.level(i, 7));
            for (int k = 0; k < 3; k++) {
                put("letter0" + i + k, Check.letter(x, 0, i, k));
                put("letter1" + i + k, Check.letter(x, 1, i, k));
            }
        }
    }

    private void takeRun(String name) {
        told.append("; ").append(name);
        for (int what = 0; what < 5; what++) {
            put("now" + what, x.now(what));
        }
        for (int stage = 0; stage < 3; stage++) {
            put("sum" + stage, x.sum(stage));
            put("size" + stage, x.size(stage));
        }
        int last = x.now(2) - 1;
        put("often1", x.often(1, 0, last));
        put("often0", x.often(0, 0, last));
        put("astray", x.astray(0, last));
        put("row", x.rows(0, last, 0));
        put("changes", x.rows(0, last, 1));
        put("like", x.like(0, last, 3));
        put("tone", x.tone(0, last, 20));
        put("nth", x.nth(-1, 4));
        put("summed", x.summedAt(2, 3, 1));
        put("worst", x.worst(3, 2));
        put("first", x.out(0));
        put("last", x.out(last));
        put("octet", x.octet((last + 1) / 8 - 1));
    }

    private void takeSeed(String name) {
        x.begin(0, 0);
        put(name, x.now(3));
    }

    private void takeImage(int k) {
        boolean kept = x.back(k);
        put("image" + k, kept ? 1 : 0);
        if (kept) {
            takeRun("image" + k);
            put("goes on", x.run(3));
            put("goes on to", x.sum(0));
            takeSeed("seed of image" + k);
        }
    }

    private void takeTape() {
        told.append("; tape");
        put("text", x.text(x.bytes()));
        put("where", x.where());
        put("fault", x.fault());
        for (int w = 0; w < 4; w++) {
            put("level", x.level(w, 0));
            put("clocks", x.wave(w, 1));
        }
        put("factor", x.loop(0, 1));
        takeSeed("seed behind all");
    }
}
