import java.util.TreeMap;

/** By hand, promise by promise: ordinary inputs, the document's edges, wrong inputs. */
public final class PromiseTest {
    private static final long NO = Long.MIN_VALUE;
    private static final int LEAST = Integer.MIN_VALUE, MOST = Integer.MAX_VALUE;
    private static final int BILLION = 1000000000;

    private static final TreeMap<Integer, Integer> CHECKS = new TreeMap<>();
    private static int promise;
    private static int wrong;

    private static void due(String what, Object got, Object want) {
        CHECKS.merge(promise, 1, Integer::sum);
        if (!got.equals(want)) {
            wrong++;
            System.out.println("promise " + promise + ": " + what + " answered " + got + ", due is " + want);
        }
    }

    private static void due(String what, long got, long want) {
        due(what, (Object) got, (Object) want);
    }

    private static void row(RisingRows x, int row, int kind, int... numbers) {
        x.begin(row, kind);
        for (int v : numbers) {
            x.add(row, v);
        }
    }

    private static RisingRows with(int kind, int... numbers) {
        RisingRows x = new RisingRows();
        row(x, 0, kind, numbers);
        return x;
    }

    private static String shown(RisingRows x, int row) {
        StringBuilder s = new StringBuilder();
        for (int i = 0; x.written(row, i) >= 0; i++) {
            s.append((char) x.written(row, i));
        }
        return s.toString();
    }

    private static String worthShown(RisingRows x, int row) {
        return x.worth(row, 0) == NO ? "none" : x.worth(row, 0) + "/" + x.worth(row, 1);
    }

    private static void type(RisingRows x, String text) {
        for (int i = 0; i < text.length(); i++) {
            x.feed(text.charAt(i));
        }
    }

    private static int readText(RisingRows x, String text) {
        type(x, text);
        return x.read();
    }

    private static void newObject() {
        RisingRows x = new RisingRows();
        for (int r = 0; r < 6; r++) {
            due("kind", x.told(r, 0), 0);
            due("numbers", x.told(r, 1), 0);
            due("shown", shown(x, r), "s:");
            due("worth", worthShown(x, r), "0/1");
            for (int i = 0; i < 60; i++) {
                due("tapes hold nothing", x.peek(r, i), NO);
            }
        }
        for (int what = 0; what < 4; what++) {
            due("count", x.count(what), 0);
        }
        due("no image", x.undo(), RisingRows.STATE);
        due("NONE", RisingRows.NONE, -1);
        due("BAD", RisingRows.BAD, -2);
        due("STATE", RisingRows.STATE, -3);
        due("FULL", RisingRows.FULL, -4);
        due("NO", RisingRows.NO, NO);
        x.add(0, 5);
        due("objects share nothing", new RisingRows().told(0, 1), 0);
    }

    private static void spreadCase(int kind, int up, int low, int answer, String shown) {
        RisingRows x = with(3, 1, 2, 3);
        due("spread " + kind + " " + up + "/" + low, x.spread(0, kind, up, low), answer);
        due("spread " + kind + " " + up + "/" + low + " into", shown(x, 0), shown);
    }

    private static void spread() {
        spreadCase(0, 3, 7, 1, "s:3,11,231");
        spreadCase(1, 3, 7, 1, "e:3,4,7");
        spreadCase(2, 3, 7, 1, "p:2,7");
        spreadCase(3, 3, 7, 1, "c:0,2,2,1,2,4");
        spreadCase(0, 6, 14, 1, "s:3,11,231");
        spreadCase(3, 6, 14, 1, "c:0,2,2,1,2,4");
        spreadCase(0, 1, 999999, 1, "s:999999");
        spreadCase(2, 999998, 999999, 1, "p:1,999999");
        spreadCase(2, 2, 3, 1, "p:1,3");
        spreadCase(0, 4, 17, 1, "s:5,29,1233,3039345");
        spreadCase(0, 5, 121, 0, "s:25,757");
        spreadCase(0, 2, 44719, 1, "s:22360,999916840");
        spreadCase(0, 2, 44721, 0, "s:");
        spreadCase(1, 65535, 65536, 1, "e:2,2,2,2,2,2,2,2,2,2,2,2,2,2,2,2");
        spreadCase(1, 131071, 131072, 0, "e:2,2,2,2,2,2,2,2,2,2,2,2,2,2,2,2");
        spreadCase(3, 1, 17, 1, "c:0,0,1,2,0,2,3,6,8,9,0,9,2,7,0,16");
        due("16 ends", with(0).spread(5, 3, 1, 17), 1);
        due("behind 16", with(0).spread(5, 3, 1, 19), 0);
        RisingRows x = with(1, 2, 3);
        int[][] none = {{-1, 0, 1, 2}, {6, 0, 1, 2}, {0, -1, 1, 2}, {0, 4, 1, 2}, {6, 0, 0, 0}, {0, 4, 5, 2}, {LEAST, MOST, 1, 2}};
        for (int[] a : none) {
            due("no such", x.spread(a[0], a[1], a[2], a[3]), RisingRows.NONE);
        }
        int[][] bad = {{0, 2}, {-1, 2}, {2, 2}, {3, 2}, {1, 0}, {1, -2}, {1, 1000000}, {1000000, 1000001}, {LEAST, MOST}, {-2, -1}};
        for (int[] a : bad) {
            due("bad " + a[0] + "/" + a[1], x.spread(0, 0, a[0], a[1]), RisingRows.BAD);
        }
        due("refused changes nothing", shown(x, 0), "e:2,3");
    }

    private static void begin() {
        RisingRows x = with(1, 2, 3);
        due("had", x.begin(0, 2), 2);
        due("shown", shown(x, 0), "p:");
        due("had none", x.begin(0, 3), 0);
        due("kind", x.told(0, 0), 3);
        due("row 6", x.begin(6, 0), RisingRows.NONE);
        due("row -1", x.begin(-1, 0), RisingRows.NONE);
        due("kind 4", x.begin(0, 4), RisingRows.NONE);
        due("kind -1", x.begin(0, -1), RisingRows.NONE);
        due("kind stays", x.told(0, 0), 3);
        due("others", x.told(1, 0), 0);
    }

    private static void add() {
        RisingRows x = new RisingRows();
        due("nought", x.add(5, 0), 1);
        due("most", x.add(5, BILLION), 2);
        due("shown", shown(x, 5), "s:0,1000000000");
        due("too much", x.add(5, BILLION + 1), RisingRows.BAD);
        due("below", x.add(5, -1), RisingRows.BAD);
        due("row 6", x.add(6, -1), RisingRows.NONE);
        due("row -1", x.add(-1, 1), RisingRows.NONE);
        for (int i = 3; i <= 16; i++) {
            due("more", x.add(5, i), i);
        }
        due("full", x.add(5, 1), RisingRows.FULL);
        due("bad ahead of full", x.add(5, -1), RisingRows.BAD);
        due("still", x.told(5, 1), 16);
        due("the last one", x.of(5, 15), 16);
    }

    private static void cut() {
        RisingRows x = with(1, 2, 3, 4);
        due("too many", x.cut(0, 4), RisingRows.BAD);
        due("below", x.cut(0, -1), RisingRows.BAD);
        due("all stay", x.cut(0, 3), 0);
        due("two went", x.cut(0, 1), 2);
        due("shown", shown(x, 0), "e:2");
        due("the last went", x.cut(0, 0), 1);
        due("kind stays", shown(x, 0), "e:");
        due("row 6", x.cut(6, 0), RisingRows.NONE);
        due("row -1", x.cut(-1, -1), RisingRows.NONE);
    }

    private static void copies() {
        RisingRows x = with(2, 4, 5, 6);
        row(x, 1, 3, 9, 9, 9, 9);
        due("copied", x.copies(1, 0), 3);
        due("shown", shown(x, 1), "p:4,5,6");
        x.add(1, 7);
        due("the other one by itself", shown(x, 0), "p:4,5,6");
        due("itself", x.copies(0, 0), 3);
        due("itself stays", shown(x, 0), "p:4,5,6");
        due("row 6", x.copies(6, 0), RisingRows.NONE);
        due("from 6", x.copies(0, 6), RisingRows.NONE);
        due("row -1", x.copies(-1, 0), RisingRows.NONE);
        due("from -1", x.copies(0, -1), RisingRows.NONE);
        due("an empty one", x.copies(0, 5), 0);
        due("of its kind", shown(x, 0), "s:");
    }

    private static void works() {
        RisingRows x = new RisingRows();
        row(x, 0, 1, 2);
        row(x, 1, 1, 3);
        due("together", x.works(2, 0, 1, 0), 1);
        due("5/6", shown(x, 2), "s:2,3");
        due("less", x.works(2, 0, 1, 1), 1);
        due("1/6", shown(x, 2), "s:6");
        x.begin(3, 2);
        due("by its own kind", x.works(3, 0, 1, 0), 1);
        due("5/6 by Pierce", shown(x, 3), "p:1,6");
        due("times", x.works(3, 0, 1, 2), 1);
        due("1/6 by Pierce", shown(x, 3), "p:6");
        due("not below 1", x.works(3, 0, 0, 0), RisingRows.STATE);
        due("not above 0", x.works(3, 0, 0, 1), RisingRows.STATE);
        due("below 0", x.works(3, 1, 0, 1), RisingRows.STATE);
        due("refused changes nothing", shown(x, 3), "p:6");
        due("into one of them", x.works(1, 0, 1, 0), 1);
        due("5/6 by Engel", shown(x, 1), "e:2,2,3");
        row(x, 4, 0, 0);
        due("first has none", x.works(3, 4, 0, 0), RisingRows.STATE);
        due("second has none", x.works(3, 0, 4, 0), RisingRows.STATE);
        row(x, 4, 0, 99999);
        row(x, 5, 0, 100000);
        due("wide product", x.works(3, 4, 5, 2), RisingRows.STATE);
        due("wide sum", x.works(3, 4, 5, 0), RisingRows.STATE);
        row(x, 4, 0, 999999999);
        due("lowest terms are not wide", x.works(3, 4, 4, 0), 1);
        due("2/999999999", shown(x, 3), "p:499999999,999999999");
        due("broken off", x.works(2, 4, 4, 0), 0);
        due("what came stays", shown(x, 2), "s:");
        RisingRows y = with(0, BILLION);
        for (int kind = 0; kind < 3; kind++) {
            y.begin(2, kind);
            due("the most that a number may be", y.works(2, 0, 1, 0), 1);
            due("it", y.of(2, 0), BILLION);
        }
        int[][] none = {{6, 0, 0, 0}, {-1, 0, 0, 0}, {0, 6, 0, 0}, {0, -1, 0, 0}, {0, 0, 6, 0}, {0, 0, -1, 0}, {0, 0, 0, 3}, {0, 0, 0, -1}};
        for (int[] a : none) {
            due("no such", x.works(a[0], a[1], a[2], a[3]), RisingRows.NONE);
        }
    }

    private static void feed() {
        RisingRows x = new RisingRows();
        due("below", x.feed(-1), RisingRows.BAD);
        due("above", x.feed(128), RisingRows.BAD);
        due("far below", x.feed(LEAST), RisingRows.BAD);
        due("none came", x.count(3), 0);
        due("least", x.feed(0), 1);
        due("most", x.feed(127), 2);
        for (int i = 3; i <= 100; i++) {
            due("sign", x.feed(65), i);
        }
        due("full", x.feed(65), RisingRows.FULL);
        due("bad ahead of full", x.feed(128), RisingRows.BAD);
        due("still", x.count(3), 100);
    }

    private static void readCase(String text, int answer) {
        RisingRows x = new RisingRows();
        due("read '" + text + "'", readText(x, text), answer);
        due("empty behind '" + text + "'", x.count(3), 0);
    }

    private static void read() {
        String[] texts = {
            "", "x", "r", "ro", "row", "row ", "row 0", "row 0 ", "row 0 1;", "row 0 1 ", "row 0 1 2",
            "row  0 1", "row 0,1", "Row 0 1", " row 0 1", "rows 0 1", "cuty", "cop 0 1", "cx", "c", "co", "sprayed",
            "spread 0 0 1", "spread 0 0 1 2 ", "add 0 -1", "add 0 1234567890", "row 0 1;;row 0 1",
            ";row 0 1", "row 0 1;x", "row 0 1; row", "\0", "row 0 \u007f", "row 0 1:"};
        int[] faults = {
            0, 0, 1, 2, 3, 4, 5, 6, 8, 7, 7,
            4, 5, 0, 0, 3, 3, 3, 1, 1, 2, 3,
            12, 14, 6, 15, 8,
            0, 8, 8, 0, 6, 7};
        for (int i = 0; i < texts.length; i++) {
            readCase(texts[i], -10 - faults[i]);
        }
        String twelve = "row 0 0" + ";row 0 0".repeat(11);
        readCase(twelve, 12);
        readCase(twelve + ";", -10 - 95);
        readCase(twelve + ";row", -10 - 95);
        readCase("add 0 000000001", 1);
        readCase("spread 000000000 0 1 2", 1);
        readCase("spread 0 0 5 121", 1);
        readCase("spread 0 0 2 1", 0);
        readCase("add 0 1;copy 1 0;cut 1 0;row 5 3;spread 5 3 1 2", 5);
        readCase("row 0 " + "1".repeat(94), -10 - 15);
        RisingRows x = with(2, 7, 8);
        due("a fault", readText(x, "row 0 1;add 0 2;zzz"), -26);
        due("by it none is done", shown(x, 0), "p:7,8");
        due("the refused aren't done", readText(x, "row 0 1;add 0 2;add 9 9;cut 0 2;add 0 3"), 3);
        due("the others are", shown(x, 0), "e:2,3");
        due("cut, copy", readText(x, "cut 0 1;copy 3 0;add 3 000000009"), 3);
        due("cut", shown(x, 0), "e:2");
        due("copied", shown(x, 3), "e:2,9");
        due("copy the other way", readText(x, "copy 0 5"), 1);
        due("an empty one", shown(x, 0), "s:");
        due("spread", readText(x, "spread 4 1 3 7"), 1);
        due("3/7", shown(x, 4), "e:3,4,7");
        due("refused", readText(x, "row 0 4;row 6 0;copy 6 0;copy 0 6;cut 0 1;spread 0 0 0 1"), 0);
        due("a full row", readText(x, "row 0 0" + ";add 0 1".repeat(11)), 12);
        String longer = "spread 0 0 1 2;copy 1 0";
        for (int end = 0; end < longer.length(); end++) {
            RisingRows y = new RisingRows();
            due("the longer one", readText(y, longer), 2);
            due("no sign of an earlier text", readText(y, longer.substring(0, end)), end == 14 ? 1 : -10 - end);
        }
        RisingRows z = new RisingRows();
        readText(z, "add 0 12");
        due("no digit of an earlier text", readText(z, "add 0 1"), 1);
        due("its own one", shown(z, 0), "s:12,1");
        due("a full row", readText(x, "add 0 7" + ";add 0 1".repeat(11)), 5);
    }

    private static void of() {
        RisingRows x = with(3, 10, 0, BILLION);
        due("0", x.of(0, 0), 10);
        due("1", x.of(0, 1), 0);
        due("2", x.of(0, 2), BILLION);
        due("3", x.of(0, 3), -5);
        due("far", x.of(0, MOST), -5);
        due("below 0", x.of(0, -1), RisingRows.NONE);
        due("row 6", x.of(6, 0), RisingRows.NONE);
        due("row -1", x.of(-1, 0), RisingRows.NONE);
        x.cut(0, 1);
        due("cut off", x.of(0, 1), -5);
    }

    private static void flaw(int want, int kind, int... numbers) {
        due("flaw of " + shown(with(kind, numbers), 0), with(kind, numbers).told(0, 2), want);
    }

    private static void told() {
        RisingRows x = with(2, 4, 9);
        due("kind", x.told(0, 0), 2);
        due("numbers", x.told(0, 1), 2);
        due("flaw", x.told(0, 2), -5);
        due("has a worth", x.told(0, 3), 1);
        x.add(0, 0);
        due("has none", x.told(0, 3), 0);
        due("what 4", x.told(0, 4), RisingRows.NONE);
        due("what -1", x.told(0, -1), RisingRows.NONE);
        due("row 6", x.told(6, 0), RisingRows.NONE);
        due("row -1", x.told(-1, 0), RisingRows.NONE);
        for (int kind = 0; kind < 4; kind++) {
            flaw(0, kind);
        }
        flaw(0, 0, 1);
        flaw(-5, 0, 2);
        flaw(-5, 0, 2, 3, 7, 43);
        flaw(2, 0, 2, 3, 6);
        flaw(-5, 0, 2, 100);
        flaw(1, 0, BILLION, BILLION);
        flaw(-5, 0, 31623, 999982507);
        flaw(1, 0, 31623, 999982506);
        flaw(0, 1, 1, 1);
        flaw(-5, 1, 2, 2, 2);
        flaw(2, 1, 2, 3, 2);
        flaw(0, 2, 0, 5);
        flaw(0, 2, 1);
        flaw(-5, 2, 2);
        flaw(-5, 2, 1, 3);
        flaw(1, 2, 1, 2);
        flaw(-5, 2, 1, 2, 4);
        flaw(2, 2, 1, 2, 3);
        flaw(1, 2, 5, 5);
        flaw(1, 2, 5, 4, 9);
        flaw(0, 3, 0);
        flaw(-5, 3, 1);
        flaw(0, 3, 2);
        flaw(-5, 3, 0, 2);
        flaw(1, 3, 1, 3);
        flaw(1, 3, 1, 0);
        flaw(-5, 3, 1, 0, 3);
        flaw(-5, 3, 0, 0, 0, 0, 0, 0, 0, 0, 0, 0, 0, 0, 0, 0, 0, 16);
        flaw(15, 3, 0, 0, 0, 0, 0, 0, 0, 0, 0, 0, 0, 0, 0, 0, 0, 17);
    }

    private static void worthCase(String want, int kind, int... numbers) {
        due("worth of " + shown(with(kind, numbers), 0), worthShown(with(kind, numbers), 0), want);
    }

    private static void worth() {
        worthCase("41/42", 0, 2, 3, 7);
        worthCase("1/2", 0, 3, 6);
        worthCase("16/1", 0, 1, 1, 1, 1, 1, 1, 1, 1, 1, 1, 1, 1, 1, 1, 1, 1);
        worthCase("17/24", 1, 2, 3, 4);
        worthCase("3/8", 2, 2, 3, 4);
        worthCase("23/24", 3, 1, 2, 3);
        worthCase("1/6", 3, 0, 1);
        worthCase("0/1", 2, 5, 1);
        for (int kind = 0; kind < 3; kind++) {
            worthCase("none", kind, 0);
            worthCase("none", kind, 0, 2);
            worthCase("none", kind, 2, 0);
            worthCase("1/1000000000", kind, BILLION);
            worthCase("0/1", kind);
        }
        worthCase("none", 0, BILLION, 999999999);
        worthCase("1391/76218750", 0, 125000, 99999, 3999960);
        worthCase("none", 0, 3999960, 99999, 125000);
        worthCase("1/500000000", 0, BILLION, BILLION);
        worthCase("none", 1, 5, BILLION);
        worthCase("1/999999999", 1, BILLION, 999999999);
        worthCase("none", 1, 3, 999999999, 7);
        worthCase("1/1000000000", 2, 999999999, BILLION);
        worthCase("500000000/1", 3, BILLION);
        worthCase("500000000/1", 3, 999999999, 3);
        worthCase("none", 3, BILLION, 6);
        worthCase("none", 3, BILLION, 1);
        RisingRows x = new RisingRows();
        due("row 6", x.worth(6, 0), NO);
        due("row -1", x.worth(-1, 0), NO);
        due("part 2", x.worth(0, 2), NO);
        due("part -1", x.worth(0, -1), NO);
    }

    private static void written() {
        due("s", shown(with(0, 2, 3, 7), 0), "s:2,3,7");
        due("e", shown(with(1, 10), 0), "e:10");
        due("p", shown(with(2, 0, 100, 9), 0), "p:0,100,9");
        due("c", shown(with(3, BILLION, 999999999), 0), "c:1000000000,999999999");
        due("alone", shown(with(3), 0), "c:");
        RisingRows x = with(0, 25, 757);
        int[] signs = {115, 58, 50, 53, 44, 55, 53, 55, -5, -5};
        for (int i = 0; i < signs.length; i++) {
            due("sign " + i, x.written(0, i), signs[i]);
        }
        due("far", x.written(0, MOST), -5);
        due("below 0", x.written(0, -1), RisingRows.NONE);
        due("row 6", x.written(6, 0), RisingRows.NONE);
        due("row -1", x.written(-1, 0), RisingRows.NONE);
    }

    private static void greaterCase(int want, int kind, int[] first, int[] second) {
        RisingRows x = with(kind, first);
        row(x, 1, kind, second);
        String told = shown(x, 0) + " and " + shown(x, 1);
        due("greater of " + told, x.greater(0, 1), want);
        due("greater turned of " + told, x.greater(1, 0), want == 0 ? 0 : 3 - want);
    }

    private static int[] ns(int... numbers) {
        return numbers;
    }

    private static void greater() {
        for (int kind = 0; kind < 4; kind++) {
            greaterCase(0, kind, ns(), ns());
            greaterCase(0, kind, ns(2, 5), ns(2, 5));
            greaterCase(1, kind, ns(2), ns());
            greaterCase(kind == 3 ? 2 : 1, kind, ns(2, 9), ns(3, 4));
            greaterCase(kind == 2 ? 2 : 1, kind, ns(2, 5), ns(2));
            greaterCase(1, kind, ns(2, 5, 9), ns(2, 5));
        }
        greaterCase(1, 0, ns(2, 4), ns(2, 5));
        greaterCase(1, 1, ns(2, 4), ns(2, 5));
        greaterCase(2, 2, ns(2, 4), ns(2, 5));
        greaterCase(2, 3, ns(2, 4), ns(2, 5));
        greaterCase(1, 2, ns(2, 4, 6), ns(2, 4, 7));
        greaterCase(2, 2, ns(2, 4, 6, 8), ns(2, 4, 6, 9));
        greaterCase(2, 2, ns(2, 4, 6, 8), ns(2, 4, 6));
        greaterCase(1, 2, ns(2, 4, 6, 8, 11), ns(2, 4, 6, 8));
        RisingRows x = with(1, 2);
        due("unlike kinds", x.greater(0, 1), RisingRows.STATE);
        due("itself", x.greater(0, 0), 0);
        int[][] none = {{6, 0}, {0, 6}, {-1, 0}, {0, -1}};
        for (int[] a : none) {
            due("no such", x.greater(a[0], a[1]), RisingRows.NONE);
        }
    }

    private static void worthier() {
        RisingRows x = with(1, 2);
        row(x, 1, 0, 3);
        row(x, 2, 3, 1);
        row(x, 3, 0, 0);
        due("above", x.worthier(0, 1), 1);
        due("below", x.worthier(1, 0), 2);
        due("alike", x.worthier(0, 2), 0);
        due("first has none", x.worthier(3, 0), RisingRows.STATE);
        due("second has none", x.worthier(0, 3), RisingRows.STATE);
        row(x, 4, 0, 999999999);
        row(x, 5, 0, BILLION);
        due("hardly above", x.worthier(4, 5), 1);
        int[][] none = {{6, 3}, {3, 6}, {-1, 0}, {0, -1}};
        for (int[] a : none) {
            due("no such", x.worthier(a[0], a[1]), RisingRows.NONE);
        }
    }

    private static String beginningShown(RisingRows x, int m, int what) {
        long up = x.beginning(0, m, what, 0);
        return up == NO ? "none" : up + "/" + x.beginning(0, m, what, 1);
    }

    private static void beginning() {
        RisingRows x = with(1, 2, 2, 3);
        String[] begins = {"0/1", "1/2", "3/4", "5/6"};
        String[] shorts = {"5/6", "1/3", "1/12", "0/1"};
        for (int m = 0; m < 4; m++) {
            due("beginning " + m, beginningShown(x, m, 0), begins[m]);
            due("short by " + m, beginningShown(x, m, 1), shorts[m]);
        }
        due("below 0", beginningShown(with(2, 2, 5), 1, 1), "-1/10");
        due("it has a worth", beginningShown(with(0, 2, 0), 1, 0), "1/2");
        due("the row has none", beginningShown(with(0, 2, 0), 1, 1), "none");
        due("neither has", beginningShown(with(0, 2, 0), 2, 0), "none");
        due("the row has", beginningShown(with(2, 50000, 50001), 2, 0), "1/50001");
        due("wide", beginningShown(with(2, 50000, 50001), 1, 1), "none");
        RisingRows w = with(0, 125000, 99999, 3999960);
        due("the row has", beginningShown(w, 3, 0), "1391/76218750");
        due("its beginning has none", beginningShown(w, 2, 0), "none");
        due("nor is it short by that", beginningShown(w, 2, 1), "none");
        due("wide below", with(2, 50000, 50001).beginning(0, 1, 1, 1), NO);
        int[][] no = {{6, 0, 0, 0}, {-1, 0, 0, 0}, {0, 4, 0, 0}, {0, -1, 0, 0}, {0, 0, 2, 0}, {0, 0, -1, 0}, {0, 0, 0, 2}, {0, 0, 0, -1}};
        for (int[] a : no) {
            due("no such", x.beginning(a[0], a[1], a[2], a[3]), NO);
        }
    }

    private static void unitsCase(int up, int low, int... want) {
        RisingRows x = new RisingRows();
        String told = "units of " + up + "/" + low + ", ";
        due(told + "fewest", x.units(up, low, 0), want.length == 0 ? -5 : want.length);
        for (int k = 1; k <= 3; k++) {
            due(told + k, x.units(up, low, k), k <= want.length ? want[k - 1] : -5);
        }
    }

    private static void units() {
        unitsCase(1, 2, 2);
        unitsCase(1, 60, 60);
        unitsCase(1, 61);
        unitsCase(2, 120, 60);
        unitsCase(5, 6, 2, 3);
        unitsCase(2, 7, 4, 28);
        unitsCase(6, 14, 3, 14, 42);
        unitsCase(1, 1, 2, 3, 6);
        unitsCase(9999, 9999, 2, 3, 6);
        unitsCase(4, 5, 2, 4, 20);
        unitsCase(13, 12, 2, 3, 4);
        unitsCase(59, 60);
        unitsCase(1, 9999);
        unitsCase(9999, 1);
        unitsCase(119, 3540, 59, 60);
        unitsCase(2, 3, 2, 6);
        RisingRows x = new RisingRows();
        int[][] bad = {{0, 1}, {1, 0}, {-1, 1}, {1, -1}, {10000, 1}, {1, 10000}, {LEAST, LEAST}};
        for (int[] a : bad) {
            due("bad", x.units(a[0], a[1], 0), RisingRows.BAD);
            due("bad ahead of none", x.units(a[0], a[1], 4), RisingRows.BAD);
        }
        due("what 4", x.units(1, 1, 4), RisingRows.NONE);
        due("what -1", x.units(1, 1, -1), RisingRows.NONE);
    }

    private static void see() {
        RisingRows x = new RisingRows();
        int[][] bad = {{0, 1}, {1, 0}, {10000, 1}, {1, 10000}, {-1, -1}};
        for (int[] a : bad) {
            due("bad", x.see(0, a[0], a[1]), RisingRows.BAD);
            due("none ahead of bad", x.see(6, a[0], a[1]), RisingRows.NONE);
        }
        due("row -2", x.see(-2, 1, 1), RisingRows.NONE);
        due("first", x.see(0, 1, 9999), 1);
        due("second", x.see(5, 9999, 1), 2);
        due("third", x.see(0, 1, 1), 3);
        due("fourth", x.see(0, 1, 1), 4);
        due("full", x.see(0, 1, 1), RisingRows.FULL);
        due("bad ahead of full", x.see(0, 0, 1), RisingRows.BAD);
        due("four", x.count(0), 4);
        due("none then", x.see(-1, LEAST, MOST), 0);
        due("none", x.count(0), 0);
    }

    private static void fits() {
        RisingRows x = with(1, 2, 3);
        due("nothing seen", x.fits(0, 0, 0), 100);
        due("nothing seen, least", x.fits(0, 0, 1), 0);
        x.see(0, 4, 6);
        due("one", x.fits(0, 0, 0), 1);
        due("it", x.fits(0, 0, 1), 2);
        due("the next one", x.fits(0, 1, 1), 3);
        due("asked changes nothing", shown(x, 0), "e:2,3");
        row(x, 1, 0, 5);
        due("of another row", x.fits(1, 0, 0), 100);
        x.see(1, 1, 99);
        due("the other one isn't so", x.fits(0, 0, 0), 0);
        due("none", x.fits(0, 0, 1), -5);
        due("99", x.fits(1, 0, 1), 99);
        x.see(0, 3, 4);
        due("row 0 isn't so", x.fits(1, 0, 0), 0);
        x.see(-1, 0, 0);
        x.see(1, 1, 100);
        due("100 isn't tried", x.fits(1, 0, 1), -5);
        x.see(-1, 0, 0);
        row(x, 2, 2, 2, 7, 1);
        x.see(2, 1, 2);
        due("many", x.fits(2, 1, 0), 99);
        due("the least of many", x.fits(2, 1, 1), 1);
        x.see(2, 1, 3);
        due("not both", x.fits(2, 1, 0), 0);
        x.see(-1, 0, 0);
        row(x, 3, 3, 1);
        x.see(3, 1, 2);
        due("nought tried", x.fits(3, 0, 1), 1);
        x.see(-1, 0, 0);
        x.see(0, 3, 1);
        row(x, 0, 0, 1, 1, 0);
        due("were it 1", x.fits(0, 2, 1), 1);
        int[][] none = {{6, 0, 0}, {-1, 0, 0}, {0, 3, 0}, {0, -1, 0}, {0, 0, 2}, {0, 0, -1}, {5, 0, 0}, {0, MOST, 0}};
        for (int[] a : none) {
            due("no such", x.fits(a[0], a[1], a[2]), RisingRows.NONE);
        }
    }

    private static String oddsShown(RisingRows x, int one, int other) {
        long up = x.odds(one, other, 0);
        return up == NO ? "none" : up + "/" + x.odds(one, other, 1);
    }

    private static void odds() {
        RisingRows x = with(1, 2, 2);
        row(x, 1, 1, 2, 3);
        row(x, 2, 0, 2, 0);
        row(x, 4, 0, 1);
        due("half", oddsShown(x, 0, 1), "1/2");
        due("a quarter", oddsShown(x, 1, 0), "1/4");
        due("a row by itself", oddsShown(x, 0, 0), "1/4");
        due("none is above what has none", oddsShown(x, 0, 2), "1/4");
        due("what has none is not above", oddsShown(x, 2, 0), "0/1");
        due("always", oddsShown(x, 4, 0), "1/1");
        due("one of each", oddsShown(x, 4, 4), "0/1");
        x.spread(5, 1, 65535, 65536);
        due("16 of each", oddsShown(x, 5, 5), "15/32");
        due("no numbers", oddsShown(x, 0, 3), "none");
        due("no numbers either", oddsShown(x, 3, 0), "none");
        int[][] no = {{6, 0, 0}, {-1, 0, 0}, {0, 6, 0}, {0, -1, 0}, {0, 0, 2}, {0, 0, -1}};
        for (int[] a : no) {
            due("no such", x.odds(a[0], a[1], a[2]), NO);
        }
    }

    private static String meanShown(RisingRows x) {
        return x.mean(0) == NO ? "none" : x.mean(0) + "/" + x.mean(1);
    }

    private static void mean() {
        RisingRows x = with(0, 2);
        due("those without numbers, too", meanShown(x), "1/12");
        row(x, 1, 0, 0);
        due("not those without a worth", meanShown(x), "1/10");
        for (int r = 0; r < 6; r++) {
            row(x, r, 0, 0);
        }
        due("none has", meanShown(x), "none");
        row(x, 3, 1, 3);
        due("one has", meanShown(x), "1/3");
        due("wide by how many", meanShown(with(0, BILLION)), "none");
        due("not wide by how many", meanShown(with(0, 166666666)), "1/999999996");
        RisingRows y = with(0, 99999);
        row(y, 1, 0, 100000);
        due("wide on the way", meanShown(y), "none");
        due("part 2", x.mean(2), NO);
        due("part -1", x.mean(-1), NO);
    }

    private static void event() {
        RisingRows x = new RisingRows();
        int[][] none = {{3, 0}, {-2, 0}, {0, 6}, {0, -1}, {MOST, 0}};
        for (int[] a : none) {
            due("no such", x.event(a[0], a[1]), RisingRows.NONE);
        }
        for (int i = 1; i <= 8; i++) {
            due("event", x.event(i % 3, i % 6), i);
        }
        due("full", x.event(0, 0), RisingRows.FULL);
        due("none ahead of full", x.event(3, 0), RisingRows.NONE);
        due("eight", x.count(1), 8);
        due("none then", x.event(-1, MOST), 0);
        due("none", x.count(1), 0);
    }

    private static void after() {
        RisingRows x = with(3, 0, 1, 1);
        due("as it is", x.after(0, 0), 3);
        due("kind as it is", x.after(0, 2), 3);
        due("flaw as it is", x.after(0, 1), -5);
        x.event(0, 0);
        due("one less", x.after(0, 0), 2);
        x.event(2, 0);
        due("behind 3 comes 0", x.after(0, 2), 0);
        due("flaw of s:0,1", x.after(0, 1), 0);
        x.event(1, 0);
        x.event(1, 0);
        due("s:2,3", x.after(0, 1), -5);
        x.event(2, 0);
        due("kind 1", x.after(0, 2), 1);
        due("another row", x.after(1, 0), 0);
        due("another row's flaw", x.after(1, 1), 0);
        due("asked changes nothing", shown(x, 0), "c:0,1,1");
        due("asked changes no events", x.count(1), 5);
        RisingRows y = with(1, BILLION, 999999999);
        due("falls", y.after(0, 1), 1);
        y.event(1, 0);
        due("a billion at most", y.after(0, 1), -5);
        y.event(0, 5);
        due("none to go", y.after(5, 0), 0);
        y.event(2, 5);
        due("the next kind", y.after(5, 2), 1);
        y.spread(4, 1, 65535, 65536);
        y.event(1, 4);
        due("16 of them", y.after(4, 0), 16);
        due("each 1 more", y.after(4, 1), -5);
        int[][] none = {{6, 0}, {-1, 0}, {0, 3}, {0, -1}};
        for (int[] a : none) {
            due("no such", y.after(a[0], a[1]), RisingRows.NONE);
        }
    }

    private static void book() {
        RisingRows x = with(0, 5, 6);
        row(x, 5, 0, 7);
        int[] none = {2, 99, 100, 501, 600, -2, LEAST, MOST};
        for (int spot : none) {
            due("no spot " + spot, x.book(spot, 1), RisingRows.NONE);
            due("none ahead of bad", x.book(spot, -1), RisingRows.NONE);
        }
        due("bad", x.book(0, -1), RisingRows.BAD);
        due("bad", x.book(0, BILLION + 1), RisingRows.BAD);
        due("first", x.book(0, BILLION), 1);
        due("second", x.book(1, 0), 2);
        due("third", x.book(500, 7), 3);
        for (int i = 4; i <= 8; i++) {
            due("more", x.book(1, i), i);
        }
        due("full", x.book(1, 1), RisingRows.FULL);
        due("bad ahead of full", x.book(1, -1), RisingRows.BAD);
        due("none ahead of full", x.book(2, 1), RisingRows.NONE);
        due("eight", x.count(2), 8);
        due("empty then", x.book(-1, LEAST), 0);
        due("none", x.count(2), 0);
    }

    private static void looked() {
        RisingRows x = with(0, 5, 6);
        row(x, 3, 1, 9);
        due("an empty book", x.looked(), -5);
        x.book(1, 6);
        x.book(0, 5);
        x.book(300, 9);
        due("all so", x.looked(), -5);
        x.begin(3, 1);
        due("isn't there", x.looked(), 2);
        x.add(3, 9);
        due("is there anew", x.looked(), -5);
        row(x, 0, 0, 4, 6);
        due("otherwise", x.looked(), 1);
        x.cut(0, 0);
        due("the first", x.looked(), 0);
    }

    private static void judge() {
        RisingRows x = with(0, 4, 0, 6);
        due("nothing there", x.judge(0, 0, 0), 100);
        due("a row without numbers", x.judge(1, 0, 0), -5);
        due("a row without numbers, anywhere", x.judge(1, 0, LEAST), -5);
        x.tape(0, 2, 5);
        due("at once", x.judge(0, 0, 0), 0);
        x.item(0, 1, 4);
        x.item(0, 3, 6);
        due("all so", x.judge(0, 0, 1), -5);
        x.item(0, 3, 7);
        due("the last one", x.judge(0, 0, 1), 2);
        x.item(0, 3, 4);
        due("ends ahead", x.judge(0, 0, 3), 102);
        due("at the end", x.judge(0, 0, 5), 100);
        due("far", x.judge(0, 0, MOST), 100);
        due("below 0", x.judge(0, 0, -1), 100);
        due("far below 0", x.judge(0, 0, LEAST), 100);
        int[] others = {0, 1, 3, 4};
        for (int sort : others) {
            x.tape(1, sort, 5);
            due("no row of ints", x.judge(0, 1, 0), -12);
            due("no row of ints, anywhere", x.judge(1, 1, -1), -12);
            due("none ahead of it", x.judge(6, 1, 0), RisingRows.NONE);
        }
        x.tape(2, 2, 0);
        due("an empty tape", x.judge(0, 2, 0), 100);
        int[][] none = {{6, 0}, {-1, 0}, {0, 6}, {0, -1}};
        for (int[] a : none) {
            due("no such", x.judge(a[0], a[1], 0), RisingRows.NONE);
        }
    }

    private static RisingRows full() {
        RisingRows x = with(1, 2, 3);
        row(x, 5, 2, 4);
        x.see(0, 2, 3);
        x.event(0, 0);
        x.event(2, 5);
        x.book(0, 2);
        x.book(1, 3);
        x.book(500, 4);
        return x;
    }

    private static void image() {
        RisingRows x = full();
        due("numbers", x.image(), 3);
        due("it changes nothing", shown(x, 0), "e:2,3");
        x.add(0, 4);
        due("taken anew", x.image(), 4);
        x.begin(0, 0);
        due("the newest one", x.undo(), 4);
        due("shown", shown(x, 0), "e:2,3,4");
        due("of a new object", new RisingRows().image(), 0);
    }

    private static void undo() {
        RisingRows x = full();
        due("none", x.undo(), RisingRows.STATE);
        due("refused changes nothing", shown(x, 0), "e:2,3");
        x.image();
        for (int round = 0; round < 2; round++) {
            row(x, 0, 3, 9, 9, 9);
            row(x, 1, 1, 8);
            x.begin(5, 0);
            x.see(-1, 0, 0);
            x.event(-1, 0);
            x.event(1, 1);
            x.book(-1, 0);
            x.feed(65);
            x.tape(0, 2, 3);
            x.item(0, 1, 77);
            due("numbers", x.undo(), 3);
            due("row 0", shown(x, 0), "e:2,3");
            due("row 1", shown(x, 1), "s:");
            due("row 5", shown(x, 5), "p:4");
            due("seen", x.count(0), 1);
            due("seen is so", x.fits(0, 1, 1), 3);
            due("events", x.count(1), 2);
            due("after", x.after(0, 0), 1);
            due("after, kind", x.after(5, 2), 3);
            due("book", x.count(2), 3);
            due("looked", x.looked(), -5);
            due("the text is no part of it", x.count(3), round + 1);
            due("tapes are no part of it", x.peek(0, 1), 77);
        }
    }

    private static void count() {
        RisingRows x = full();
        type(x, "row");
        int[] counts = {1, 2, 3, 3};
        for (int what = 0; what < 4; what++) {
            due("count " + what, x.count(what), counts[what]);
        }
        due("what 4", x.count(4), RisingRows.BAD);
        due("what -1", x.count(-1), RisingRows.BAD);
        due("far", x.count(LEAST), RisingRows.BAD);
    }

    /** A new object for each sort: none is made for more than 512 calls. */
    private static void tape() {
        RisingRows x = new RisingRows();
        for (int sort = 0; sort < 5; sort++) {
            x = new RisingRows();
            due("most", x.tape(5, sort, 60), 1);
            due("the last one is 0", x.peek(5, 59), 0);
            due("no more", x.peek(5, 60), NO);
            for (int i = 0; i < 60; i++) {
                x.item(5, i, 1);
            }
            due("anew", x.tape(5, sort, 60), 1);
            for (int i = 0; i < 60; i++) {
                due("all 0", x.peek(5, i), 0);
            }
        }
        due("none of it", x.tape(5, 2, 0), 1);
        due("no place", x.item(5, 0, 1), -13);
        due("nothing", x.tape(5, -1, LEAST), 1);
        due("nothing there", x.item(5, 0, 1), -11);
        due("nothing to peek at", x.peek(5, 0), NO);
        x.tape(0, 2, 3);
        x.item(0, 2, 9);
        due("sort 5", x.tape(0, 5, 1), RisingRows.BAD);
        due("sort -2", x.tape(0, -2, 1), RisingRows.BAD);
        due("61", x.tape(0, 2, 61), RisingRows.BAD);
        due("size", x.tape(0, 2, -1), -14);
        due("size", x.tape(0, 4, LEAST), -14);
        due("bad ahead of size", x.tape(0, 5, -1), RisingRows.BAD);
        due("tape 6", x.tape(6, 2, 1), RisingRows.NONE);
        due("tape -1", x.tape(-1, -1, 1), RisingRows.NONE);
        due("none ahead of bad", x.tape(6, 7, 99), RisingRows.NONE);
        due("refused changes nothing", x.peek(0, 2), 9);
    }

    private static void itemCase(int sort, long v, long want) {
        RisingRows x = new RisingRows();
        x.tape(3, sort, 4);
        due("item", x.item(3, 2, v), 1);
        due("sort " + sort + " of " + v, x.peek(3, 2), want);
        due("ahead", x.peek(3, 1), 0);
        due("behind", x.peek(3, 3), 0);
    }

    private static void item() {
        itemCase(0, 127, 127);
        itemCase(0, 128, -128);
        itemCase(0, 256, 0);
        itemCase(0, -129, 127);
        itemCase(1, 32768, -32768);
        itemCase(1, 65536, 0);
        itemCase(2, 2147483648L, LEAST);
        itemCase(2, 4294967296L, 0);
        itemCase(3, Long.MAX_VALUE, Long.MAX_VALUE);
        itemCase(3, -1, -1);
        itemCase(4, 4294967296L, 1);
        itemCase(4, -7, 1);
        itemCase(4, 0, 0);
        RisingRows x = new RisingRows();
        due("tape 6", x.item(6, 0, 1), RisingRows.NONE);
        due("tape -1", x.item(-1, -1, 1), RisingRows.NONE);
        due("nothing", x.item(0, -1, 1), -11);
        x.tape(0, 0, 2);
        due("place 2", x.item(0, 2, 1), -13);
        due("place -1", x.item(0, -1, 1), -13);
        due("far", x.item(0, MOST, 1), -13);
    }

    private static void peek() {
        RisingRows x = new RisingRows();
        due("nothing there", x.peek(0, 0), NO);
        x.tape(0, 3, 2);
        x.item(0, 0, 5);
        x.item(0, 1, -6);
        due("0", x.peek(0, 0), 5);
        due("1", x.peek(0, 1), -6);
        due("2", x.peek(0, 2), NO);
        due("-1", x.peek(0, -1), NO);
        due("far", x.peek(0, MOST), NO);
        due("tape 6", x.peek(6, 0), NO);
        due("tape -1", x.peek(-1, 0), NO);
    }

    private static RisingRows twoTapes() {
        RisingRows x = new RisingRows();
        x.tape(0, 2, 5);
        x.tape(1, 2, 4);
        for (int i = 0; i < 5; i++) {
            x.item(0, i, i + 1);
        }
        return x;
    }

    private static String items(RisingRows x, int tape) {
        StringBuilder s = new StringBuilder();
        for (int i = 0; x.peek(tape, i) != NO; i++) {
            s.append(x.peek(tape, i));
        }
        return s.toString();
    }

    private static void shift() {
        RisingRows x = twoTapes();
        due("three", x.shift(0, 2, 1, 1, 3), 3);
        due("come", items(x, 1), "0345");
        due("stay", items(x, 0), "12345");
        due("upward in one", x.shift(0, 0, 0, 1, 4), 4);
        due("as they were", items(x, 0), "11234");
        x = twoTapes();
        due("downward in one", x.shift(0, 1, 0, 0, 4), 4);
        due("as they were", items(x, 0), "23455");
        due("none, at both ends", x.shift(0, 5, 1, 4, 0), 0);
        int[][] place = {{0, 0, -1}, {-1, 0, 1}, {0, -1, 1}, {2, 0, 4}, {0, 0, 5}, {6, 0, 0}, {0, 5, 0}, {MOST, 0, 1}, {1, 1, MOST}, {0, MOST, MOST}, {LEAST, 0, LEAST}};
        for (int[] a : place) {
            due("no place", x.shift(0, a[0], 1, a[1], a[2]), -13);
        }
        due("refused changes nothing", items(x, 1), "0000");
        x.tape(2, 3, 5);
        due("unlike sorts", x.shift(0, 0, 2, 0, 1), -12);
        due("unlike sorts ahead of place", x.shift(0, -1, 2, 0, 1), -12);
        due("nothing to take", x.shift(3, 0, 2, 0, 1), -11);
        due("nothing to put it in", x.shift(2, -1, 3, 0, 1), -11);
        due("nothing in both", x.shift(3, 0, 4, 0, 0), -11);
        int[][] none = {{6, 0}, {-1, 0}, {0, 6}, {0, -1}, {3, 6}};
        for (int[] a : none) {
            due("no such", x.shift(a[0], 0, a[1], 0, 1), RisingRows.NONE);
        }
    }

    private static void check(int number) {
        promise = number;
        switch (number) {
            case 1 -> newObject();
            case 2 -> spread();
            case 3 -> begin();
            case 4 -> add();
            case 5 -> cut();
            case 6 -> copies();
            case 7 -> works();
            case 8 -> feed();
            case 9 -> read();
            case 10 -> of();
            case 11 -> told();
            case 12 -> worth();
            case 13 -> written();
            case 14 -> greater();
            case 15 -> worthier();
            case 16 -> beginning();
            case 17 -> units();
            case 18 -> see();
            case 19 -> fits();
            case 20 -> odds();
            case 21 -> mean();
            case 22 -> event();
            case 23 -> after();
            case 24 -> book();
            case 25 -> looked();
            case 26 -> judge();
            case 27 -> image();
            case 28 -> undo();
            case 29 -> count();
            case 30 -> tape();
            case 31 -> item();
            case 32 -> peek();
            default -> shift();
        }
    }

    public static void main(String[] args) {
        int checks = 0;
        for (int number = 1; number <= 33; number++) {
            check(number);
            checks += CHECKS.getOrDefault(number, 0);
            if (!CHECKS.containsKey(number)) {
                wrong++;
                System.out.println("promise " + number + " has no check");
            }
        }
        System.out.println(checks + " checks of 33 promises, " + wrong + " wrong");
        if (wrong != 0) {
            System.exit(1);
        }
    }
}
