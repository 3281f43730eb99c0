/** Promises 1 to 5, 14 and 15: the object, THE TAPE, THE OUT, and what is told about them. */
final class TapeSentences {
    private static final int NONE = CipherBox.NONE;
    private static final String NEW = "Promise 1: A new object";
    private static final String FEED = "Promise 2: feed";
    private static final String END = "Promise 3: end";
    private static final String OUT = "Promise 4: out";
    private static final String TAKE = "Promise 5: take";
    private static final String SAME = "Promise 14: same";
    private static final String ABOUT = "Promise 15: about";
    private static final String SIXTEEN = "000102030405060708090a0b0c0d0e0f";

    private TapeSentences() {
    }

    static void testAll(Sentences sentences) {
        sentences.test(NEW, "makes an object in the state that the terms give.", TapeSentences::newObject);
        sentences.test(FEED, "Twenty bytes come behind those on THE TAPE, the highest of each int first:",
            TapeSentences::feedBehind);
        sentences.test(FEED, "how many there are;", TapeSentences::feedCounts);
        sentences.test(FEED, "NONE, and none come, if there would be more than 400.", TapeSentences::feedTooMany);
        sentences.test(END, "THE TAPE has its first n bytes alone: n;", TapeSentences::endCuts);
        sentences.test(END, "NONE if there are not so many,", TapeSentences::endTooLarge);
        sentences.test(END, "or n is below 0.", TapeSentences::endBelowZero);
        sentences.test(OUT, "Byte i of THE OUT;", TapeSentences::outByte);
        sentences.test(OUT, "NONE if there is none such.", TapeSentences::outNone);
        sentences.test(TAKE, "THE OUT's bytes come behind those on THE TAPE", TapeSentences::takeBehind);
        sentences.test(TAKE, "(they stay in THE OUT):", TapeSentences::takeStays);
        sentences.test(TAKE, "how many are on it;", TapeSentences::takeCounts);
        sentences.test(TAKE, "NONE, and none come, if there would be more than 400.", TapeSentences::takeTooMany);
        sentences.test(SAME, "Whether the bytes are THE OUT: 1 or 0.", TapeSentences::same);
        sentences.test(ABOUT, "What 0: bytes on THE TAPE,", TapeSentences::aboutTape);
        sentences.test(ABOUT, "1: in THE OUT,", TapeSentences::aboutOut);
        sentences.test(ABOUT, "2: THE KEY's type (NONE without),", TapeSentences::aboutType);
        sentences.test(ABOUT, "3: its bytes (0 without),", TapeSentences::aboutKeyBytes);
        sentences.test(ABOUT, "4: how many of these have an odd number of bits 1;", TapeSentences::aboutOddBytes);
        sentences.test(ABOUT, "NONE for another what.", TapeSentences::aboutNone);
    }

    private static void newObject(Checks checks) {
        CipherBox used = Boxes.withKey(1, SIXTEEN);
        Boxes.setBegin(used, Boxes.row(16));
        used.hash();
        Boxes.lay(used, Boxes.row(40));
        CipherBox box = new CipherBox();
        checks.due("the tape is empty", box.about(0), 0);
        checks.due("the out is empty", box.about(1), 0);
        checks.due("there is no key", box.about(2), NONE);
        checks.due("there are no key's bytes", box.about(3), 0);
        Boxes.lay(box, SIXTEEN);
        box.key(1);
        checks.due("BEGIN is 0s", Boxes.code(box, true, false, SIXTEEN), Boxes.code(box, false, false, SIXTEEN));
        checks.due("the one made before keeps its tape", used.about(0), 40);
        checks.due("the one made before keeps its out", used.about(1), 32);
    }

    private static void feedBehind(Checks checks) {
        CipherBox box = new CipherBox();
        box.feed(0x01020304, 0x80ff007f, 0xfffefdfc, 0, 0x0a0b0c0d);
        box.feed(0x11121314, Integer.MIN_VALUE, Integer.MAX_VALUE, -1, 1);
        checks.due("two feeds", Boxes.tape(box), "0102030480ff007ffffefdfc000000000a0b0c0d"
            + "11121314800000007fffffffffffffff00000001");
        Boxes.lay(box, "ee");
        box.feed(0x01020304, 0x05060708, 0x090a0b0c, 0x0d0e0f10, 0x11121314);
        checks.due("a feed behind one byte", Boxes.tape(box), "ee" + "0102030405060708090a0b0c0d0e0f1011121314");
    }

    private static void feedCounts(Checks checks) {
        CipherBox box = new CipherBox();
        for (int i = 1; i <= 20; i++) {
            checks.due("feed " + i, box.feed(i, -i, i, -i, i), 20 * i);
        }
        box.end(3);
        checks.due("feed behind three", box.feed(0, 0, 0, 0, 0), 23);
    }

    private static void feedTooMany(Checks checks) {
        for (int before : new int[] {381, 382, 390, 399, 400}) {
            CipherBox box = Boxes.laid(Boxes.row(before));
            checks.due("feed at " + before, box.feed(-1, -1, -1, -1, -1), NONE);
            checks.due("feed at " + before + ": the tape", box.about(0), before);
            box.hash();
            checks.due("feed at " + before + ": its bytes", Boxes.written(box), Model.hashOf(Boxes.row(before)));
        }
        CipherBox box = Boxes.laid(Boxes.row(380));
        checks.due("feed at 380", box.feed(-1, -1, -1, -1, -1), 400);
        box.hash();
        checks.due("feed at 380: its bytes", Boxes.written(box), Model.hashOf(Boxes.row(380) + Boxes.bytes("ff", 20)));
    }

    private static void endCuts(Checks checks) {
        for (int n : new int[] {0, 1, 19, 20, 21, 39, 40}) {
            CipherBox box = Boxes.laid(Boxes.row(40));
            checks.due("end(" + n + ")", box.end(n), n);
            checks.due("end(" + n + "): the tape", box.about(0), n);
            checks.due("end(" + n + "): its bytes", Boxes.tape(box), Boxes.row(n));
        }
        CipherBox box = Boxes.laid("aabb");
        box.end(1);
        Boxes.lay(box, "cc");
        checks.due("what was cut comes not back", Boxes.tape(box), "aacc");
        checks.due("end(0) of an empty tape", new CipherBox().end(0), 0);
        checks.due("end(400) of a full tape", Boxes.laid(Boxes.row(400)).end(400), 400);
    }

    private static void endTooLarge(Checks checks) {
        for (int length : new int[] {0, 1, 16, 20, 400}) {
            for (int n : new int[] {length + 1, length + 2, 401, 1000, Integer.MAX_VALUE}) {
                CipherBox box = Boxes.laid(Boxes.row(length));
                checks.due("end(" + n + ") of " + length, box.end(n), NONE);
                checks.due("end(" + n + ") of " + length + ": the tape", box.about(0), length);
            }
        }
        CipherBox box = Boxes.laid(Boxes.row(20));
        box.end(5);
        checks.due("end(6) of 20 cut to 5", box.end(6), NONE);
        checks.due("20 cut to 5", Boxes.tape(box), Boxes.row(5));
    }

    private static void endBelowZero(Checks checks) {
        for (int n : new int[] {-1, -2, -16, -400, Integer.MIN_VALUE}) {
            CipherBox box = Boxes.laid(Boxes.row(16));
            checks.due("end(" + n + ")", box.end(n), NONE);
            checks.due("end(" + n + "): the tape", Boxes.tape(box), Boxes.row(16));
            checks.due("end(" + n + ") of an empty tape", new CipherBox().end(n), NONE);
        }
    }

    private static void outByte(Checks checks) {
        CipherBox box = Boxes.withOut("ff007f8001");
        int[] want = {255, 0, 127, 128, 1};
        for (int i = 0; i < want.length; i++) {
            checks.due("out(" + i + ")", box.out(i), want[i]);
        }
        CipherBox full = Boxes.laid(Boxes.row(399));
        full.pad(8);
        checks.due("out(0) of 400", full.out(0), 11);
        checks.due("out(398) of 400", full.out(398), (37 * 398 + 11) & 255);
        checks.due("out(399) of 400", full.out(399), 128);
    }

    private static void outNone(Checks checks) {
        int[] never = {-1, -2, 400, 401, 1000, Integer.MAX_VALUE, Integer.MIN_VALUE};
        CipherBox full = Boxes.laid(Boxes.row(399));
        full.pad(8);
        CipherBox box = Boxes.withOut("ff007f");
        for (int i : never) {
            checks.due("out(" + i + ") of 400", full.out(i), NONE);
            checks.due("out(" + i + ") of 3", box.out(i), NONE);
            checks.due("out(" + i + ") at first", new CipherBox().out(i), NONE);
        }
        checks.due("out(0) at first", new CipherBox().out(0), NONE);
        checks.due("out(3) of 3", box.out(3), NONE);
        Boxes.write(box, "01");
        checks.due("out(1) of 1, after 3", box.out(1), NONE);
        Boxes.write(box, "");
        checks.due("out(0) of an empty one, after 1", box.out(0), NONE);
    }

    private static void takeBehind(Checks checks) {
        CipherBox box = Boxes.withOut("0a0b0c");
        Boxes.lay(box, "01");
        box.take();
        box.take();
        checks.due("two behind one byte", Boxes.tape(box), "01" + "0a0b0c" + "0a0b0c");
        Boxes.write(box, "ff80");
        box.take();
        checks.due("on an empty tape", Boxes.tape(box), "ff80");
    }

    private static void takeStays(Checks checks) {
        CipherBox box = Boxes.withOut("0a0b0c");
        box.take();
        checks.due("the out", Boxes.written(box), "0a0b0c");
        checks.due("the out's bytes", box.about(1), 3);
        box.end(1);
        box.feed(-1, -1, -1, -1, -1);
        checks.due("the out, when the tape has changed", Boxes.written(box), "0a0b0c");
    }

    private static void takeCounts(Checks checks) {
        CipherBox box = Boxes.withOut("0a0b0c");
        checks.due("take()", box.take(), 3);
        checks.due("take() again", box.take(), 6);
        checks.due("take() of nothing", new CipherBox().take(), 0);
        checks.due("take() of nothing behind two", Boxes.laid("0102").take(), 2);
        checks.due("take() of nothing on a full tape", Boxes.laid(Boxes.row(400)).take(), 400);
        CipherBox full = Boxes.laid(Boxes.row(399));
        full.pad(16);
        checks.due("take() of 400", full.take(), 400);
        checks.due("take() of 400: same", full.same(), 1);
    }

    private static void takeTooMany(Checks checks) {
        for (int before : new int[] {398, 399, 400}) {
            CipherBox box = Boxes.withOut("0a0b0c");
            Boxes.lay(box, Boxes.row(before));
            checks.due("take() of 3 at " + before, box.take(), NONE);
            checks.due("take() of 3 at " + before + ": the tape", box.about(0), before);
            checks.due("take() of 3 at " + before + ": the out", Boxes.written(box), "0a0b0c");
            box.hash();
            checks.due("take() of 3 at " + before + ": its bytes", Boxes.written(box), Model.hashOf(Boxes.row(before)));
        }
        CipherBox box = Boxes.withOut("0a0b0c");
        Boxes.lay(box, Boxes.row(397));
        checks.due("take() of 3 at 397", box.take(), 400);
        box.hash();
        checks.due("take() of 3 at 397: its bytes", Boxes.written(box), Model.hashOf(Boxes.row(397) + "0a0b0c"));
        CipherBox full = Boxes.laid(Boxes.row(399));
        full.pad(8);
        Boxes.lay(full, "01");
        checks.due("take() of 400 at 1", full.take(), NONE);
        checks.due("take() of 400 at 1: the tape", full.about(0), 1);
    }

    private static void same(Checks checks) {
        checks.due("nothing and nothing", new CipherBox().same(), 1);
        checks.due("a byte and nothing", Boxes.laid("00").same(), 0);
        String[] others = {"", "0a", "0a0b", "0a0b0d", "0a1b0c", "8a0b0c", "0a0b0c00", "0a0b0c0a0b0c", "0c0b0a"};
        for (String other : others) {
            CipherBox box = Boxes.withOut("0a0b0c");
            Boxes.lay(box, other);
            checks.due("same() of " + other, box.same(), 0);
            checks.due("same() of " + other + ": the out", Boxes.written(box), "0a0b0c");
        }
        CipherBox box = Boxes.withOut("0a0b0c");
        Boxes.lay(box, "0a0b0c");
        checks.due("same()", box.same(), 1);
        checks.due("same(), its tape used up", box.same(), 0);
        checks.due("the out", Boxes.written(box), "0a0b0c");
        sameOf400(checks);
    }

    private static void sameOf400(Checks checks) {
        for (String last : new String[] {"80", "81", "00"}) {
            CipherBox box = Boxes.laid(Boxes.row(399));
            box.pad(8);
            Boxes.lay(box, Boxes.row(399) + last);
            checks.due("same() of 400, the last " + last, box.same(), last.equals("80") ? 1 : 0);
        }
    }

    private static void aboutTape(Checks checks) {
        for (int length : new int[] {0, 1, 20, 399, 400}) {
            CipherBox box = Boxes.laid(Boxes.row(length));
            checks.due("about(0)", box.about(0), length);
            checks.due("about(0) again", box.about(0), length);
        }
    }

    private static void aboutOut(Checks checks) {
        checks.due("about(1) at first", new CipherBox().about(1), 0);
        for (int length : new int[] {0, 1, 20, 399}) {
            CipherBox box = Boxes.withOut(Boxes.row(length));
            box.feed(1, 2, 3, 4, 5);
            checks.due("about(1)", box.about(1), length);
        }
        CipherBox full = Boxes.laid(Boxes.row(399));
        full.pad(8);
        checks.due("about(1) of 400", full.about(1), 400);
    }

    private static void aboutType(Checks checks) {
        checks.due("about(2) without a key", new CipherBox().about(2), NONE);
        CipherBox refused = Boxes.withKey(1, "01");
        checks.due("about(2) when a key was refused", refused.about(2), NONE);
        CipherBox box = Boxes.withKey(0, SIXTEEN);
        checks.due("about(2) of DES3", box.about(2), 0);
        Boxes.lay(box, SIXTEEN);
        box.key(1);
        checks.due("about(2) of AES", box.about(2), 1);
    }

    private static void aboutKeyBytes(Checks checks) {
        checks.due("about(3) without a key", new CipherBox().about(3), 0);
        checks.due("about(3) when a key was refused", Boxes.withKey(0, "01").about(3), 0);
        checks.due("about(3) of DES3", Boxes.withKey(0, SIXTEEN).about(3), 16);
        CipherBox box = new CipherBox();
        for (int length : new int[] {32, 24, 16}) {
            Boxes.lay(box, Boxes.row(length));
            box.key(1);
            checks.due("about(3) of AES", box.about(3), length);
        }
    }

    private static void aboutOddBytes(Checks checks) {
        checks.due("about(4) without a key", new CipherBox().about(4), 0);
        checks.due("none of 16", Boxes.withKey(0, Boxes.bytes("03", 16)).about(4), 0);
        checks.due("all of 16", Boxes.withKey(0, Boxes.bytes("80", 16)).about(4), 16);
        checks.due("the lowest bit counts here", Boxes.withKey(0, "01" + Boxes.bytes("00", 15)).about(4), 1);
        checks.due("the last of 32", Boxes.withKey(1, Boxes.bytes("ff", 31) + "fe").about(4), 1);
        checks.due("all of 32", Boxes.withKey(1, Boxes.bytes("7f", 32)).about(4), 32);
        CipherBox box = Boxes.withKey(1, "00010307" + "0f1f3f7f" + "ff808183" + "fefdfbf7" + Boxes.bytes("10", 8));
        checks.due("18 of 24", box.about(4), 18);
        Boxes.lay(box, SIXTEEN);
        box.key(0);
        checks.due("8 of 16, after 18 of 24", box.about(4), 8);
    }

    private static void aboutNone(Checks checks) {
        CipherBox box = Boxes.withKey(1, SIXTEEN);
        Boxes.lay(box, "010203");
        for (int what : new int[] {-1, 5, 6, 256, -256, Integer.MIN_VALUE, Integer.MIN_VALUE + 1, Integer.MAX_VALUE}) {
            checks.due("about(" + what + ")", box.about(what), NONE);
        }
        checks.due("the tape is left", box.about(0), 3);
    }
}
