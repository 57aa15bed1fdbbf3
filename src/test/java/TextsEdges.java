/** A test for each sentence of the promises 10 to 16: append, clearBuffer, firstError, load, keep, goBack, undo. */
final class TextsEdges {
    private TextsEdges() {
    }

    static void all() {
        append();
        clearBuffer();
        firstError();
        load();
        keep();
        goBack();
        undo();
    }

    /** A new object into whose buffer the text was typed. */
    private static PotLabels typed(String text) {
        return Edge.made(x -> Check.type(x, text));
    }

    // ---- promise 10

    private static void append() {
        Sentences.test(10, "Appends a character to the buffer", () -> {
            PotLabels x = typed("7=98");
            x.append('1');
            x.load();
            Edge.colours(x, "000 000 000 000 000 000 000 981");
            Check.equal("saved states, of load alone", 1, x.count(7));
            Check.isTrue("the order of characters", typed("!~").digest() != typed("~!").digest());
        });
        Sentences.test(10, "`code`: the character code, 33 to 126", () -> {
            for (int code = 33; code <= 126; code++) {
                PotLabels x = new PotLabels();
                Check.equal("append(" + code + ")", 1, x.append(code));
                Check.equal("its code in the digest", WhatWouldBeTest.digestByCalls(x, false, false, "" + (char) code),
                        x.digest());
            }
        });
        Sentences.test(10, "Returns the new length of the buffer", () -> {
            PotLabels x = new PotLabels();
            for (int length = 1; length <= 60; length++) {
                Check.equal("the length", length, x.append(33 + length));
            }
            x.clearBuffer();
            Check.equal("the length behind clearBuffer", 1, x.append('0'));
        });
        Sentences.test(10, "Throws `IllegalArgumentException` if code is not 33 to 126", () -> {
            Edge.refusesOutside("append", Edge.WRONG, 33, 126, (x, code) -> x.append(code));
            Edge.refusesOutside("append to a full buffer", Edge.WRONG, 33, 126, Edge::fullBuffer,
                    (x, code) -> x.append(code));
            for (int code = 0; code <= 32; code++) {
                int now = code;
                Edge.refuses("append(" + code + ")", Edge.WRONG, x -> { }, x -> x.append(now));
            }
        });
        Sentences.test(10, "Throws `IllegalStateException` if the buffer has 60 characters", () -> {
            Edge.refuses("append(33)", Edge.NOT_NOW, Edge::fullBuffer, x -> x.append(33));
            Edge.refuses("append(126)", Edge.NOT_NOW, Edge::fullBuffer, x -> x.append(126));
            PotLabels x = typed(Edge.TEN_POTS);
            Check.equal("with 59", 60, x.append('x'));
            Check.throwing("with 60", Edge.NOT_NOW, () -> x.append('x'));
            x.clearBuffer();
            Check.equal("with none", 1, x.append('x'));
            PotLabels y = typed(Edge.TEN_POTS);
            y.load();
            Check.equal("behind load", 1, y.append('x'));
        });
    }

    // ---- promise 11

    private static void clearBuffer() {
        Sentences.test(11, "Clears the buffer", () -> {
            PotLabels x = typed("0=123");
            x.clearBuffer();
            Check.equal("the digest of an empty buffer", new PotLabels().digest(), x.digest());
            Check.type(x, "1=4");
            Check.equal("nothing of before is read", 3, x.firstError());
            Check.throwing("load", Edge.WRONG, () -> x.load());
            Check.equal("no state is saved", 0, x.count(7));
            PotLabels longer = typed(Edge.TEN_POTS);
            longer.clearBuffer();
            Check.type(longer, "1=999");
            longer.load();
            Edge.colours(longer, "000 999 000 000 000 000 000 000");
            Edge.changesNothing("clearBuffer of nothing", y -> y.keep(0), y -> y.clearBuffer());
        });
        Sentences.test(11, "Returns the length that it had", () -> {
            Check.equal("of nothing", 0, new PotLabels().clearBuffer());
            Check.equal("of one", 1, typed("x").clearBuffer());
            Check.equal("of 59", 59, typed(Edge.TEN_POTS).clearBuffer());
            PotLabels x = Edge.made(Edge::fullBuffer);
            Check.equal("of 60", 60, x.clearBuffer());
            Check.equal("once more", 0, x.clearBuffer());
        });
    }

    // ---- promise 12

    private static void error(String text, int want) {
        Check.equal("the first error of \"" + text + "\"", want, typed(text).firstError());
    }

    private static void firstError() {
        Sentences.test(12, "Finds the first syntax error of the buffer", () -> {
            error("a=b", 0);
            error("0xx", 1);
            error("0=a2b", 2);
            error("0=123;0=12a;b", 10);
            Edge.changesNothing("firstError", Edge::busy, x -> x.firstError());
            Edge.changesNothing("firstError of a full buffer", Edge::fullBuffer, x -> x.firstError());
            PotLabels x = typed("0=1x");
            Check.equal("firstError", 3, x.firstError());
            Check.equal("the error stays", 3, x.firstError());
            x.append('3');
            Check.equal("what comes behind it does not help", 3, x.firstError());
        });
        Sentences.test(12, "Returns the index of the first character that is a syntax error; the length of the buffer "
                + "if there is none", TextsEdges::errorAtEachPlace);
    }

    /** At each place of a text of ten pots the signs that fit, and all the others. */
    private static void errorAtEachPlace() {
        error("", 0);
        for (int length = 1; length <= 59; length++) {
            error(Edge.TEN_POTS.substring(0, length), length);
        }
        error(Edge.TEN_POTS + ";", 60);
        String[] fitting = {"01234567", "=", "0123456789", "0123456789", "0123456789", ";"};
        for (int place = 0; place < 60; place++) {
            for (int code = 33; code <= 126; code++) {
                if (place < 12 || place > 53 || code % 9 == 0) {
                    String text = Edge.TEN_POTS.substring(0, place) + (char) code;
                    boolean fits = fitting[place % 6].indexOf(code) >= 0;
                    error(text, fits ? place + 1 : place);
                }
            }
        }
        error("x".repeat(60), 0);
        error(Edge.TEN_POTS.substring(0, 58) + "x;", 58);
    }

    // ---- promise 13

    private static void load() {
        Sentences.test(13, "Gives the pots of the buffer their colours, one after the other (their labels, and all "
                + "other pots, stay), and clears the buffer", TextsEdges::loadGivesColours);
        Sentences.test(13, "Undoable", () -> {
            Edge.On type = x -> Check.type(x, "0=123;7=321");
            PotLabels x = Edge.pots("0=456");
            type.run(x);
            x.load();
            Check.equal("saved states", 2, x.count(7));
            Check.equal("undo", 1, x.undo());
            Edge.colours(x, "456 000 000 000 000 000 000 000");
            Check.equal("the buffer does not come back", 0, x.clearBuffer());
            PotLabels full = Edge.made(Edge::busy);
            Check.type(full, "3");
            full.load();
            Check.equal("six states are saved", 6, full.count(7));
            PotLabels y = new PotLabels();
            Check.type(y, "0=000");
            y.load();
            Check.equal("it saves a state without a change", 1, y.count(7));
        });
        Sentences.test(13, "Returns how many pairs of pots the painter 0 tells apart then", () -> {
            Check.equal("none", 0, typed("0=000").load());
            Check.equal("one pot from seven", 7, typed("7=004").load());
            Check.equal("3 is not farther than 3", 0, typed("7=003").load());
            PotLabels x = new PotLabels();
            Check.type(x, "0=000;1=900;2=090;3=009;4=990;5=909;6=099");
            Check.equal("all but none", 28 - 1, x.load());
            Check.type(x, "7=999");
            Check.equal("all pairs", 28, x.load());
            x.painter(0, 1, 27);
            Check.type(x, "0=000");
            Check.equal("by a painter who tells nothing", 0, x.load());
            x.painter(0, 1, 3);
            x.painter(0, 0, 2);
            Check.type(x, "0=000");
            Check.equal("by the kind 2", 24, x.load());
            x.borrow(0, 3);
            Check.type(x, "0=000");
            Check.equal("by borrowed eyes as well", x.painterOf(0, 3), x.load());
            Check.isTrue("these are more", x.painterOf(0, 3) > 24);
        });
        Sentences.test(13, "Throws `IllegalArgumentException` if the buffer does not tell pots as a text", () -> {
            String[] wrong = {"", "0", "0=", "0=1", "0=12", "0=123;", "0=123;7", "0=1234", "0=12x", "8=123", "x=123",
                "0-123", "0=123;8=123", "0=123,1=123", ";", "0=123;;", ";0=123", Edge.TEN_POTS + ";",
                Edge.TEN_POTS + "0", Edge.TEN_POTS.substring(0, 58)};
            for (String text : wrong) {
                Edge.refuses("load of \"" + text + "\"", Edge.WRONG, x -> Check.type(x, text), x -> x.load());
            }
            Edge.refuses("load again, as the buffer is empty", Edge.WRONG, x -> Check.pots(x, "0=123"), x -> x.load());
        });
    }

    private static void loadGivesColours() {
        PotLabels x = Edge.pots("3=777");
        x.label(0, 7);
        x.label(3, 0);
        Check.type(x, "0=987;7=009;0=120");
        x.load();
        Edge.colours(x, "120 000 000 777 000 000 000 009");
        Edge.labels(x, "7--0----");
        Check.equal("the buffer is cleared", 0, x.clearBuffer());
        Check.type(x, Edge.TEN_POTS);
        x.load();
        Edge.colours(x, "129 345 003 004 005 006 007 008");
        Edge.labels(x, "7--0----");
        Check.pots(x, "0=000;1=000;2=000;3=000;4=000;5=000;6=000;7=000");
        Check.type(x, "2=456");
        x.load();
        Edge.colours(x, "000 000 456 000 000 000 000 000");
        for (int pot = 0; pot < 8; pot++) {
            PotLabels one = typed(pot + "=909");
            one.load();
            for (int other = 0; other < 8; other++) {
                Check.equal("the pot " + other, other == pot ? 909 : 0, Check.colour(one, other));
            }
        }
    }

    // ---- promise 14

    private static void keep() {
        Sentences.test(14, "Takes a snapshot, in place of the one in the slot", () -> {
            PotLabels x = new PotLabels();
            x.mix(0, 0, 1);
            x.keep(0);
            x.mix(0, 0, 2);
            x.keep(1);
            x.mix(0, 0, 3);
            x.keep(0);
            x.mix(0, 0, 4);
            x.goBack(0);
            Check.equal("the red in the slot 0", 3, x.potOf(0, 0));
            x.goBack(1);
            Check.equal("the red in the slot 1", 2, x.potOf(0, 0));
            Check.equal("keep is not undoable", 6, x.count(7));
            PotLabels y = new PotLabels();
            y.keep(0);
            y.keep(0);
            Check.equal("no state is saved", 0, y.count(7));
            Check.throwing("the other slot is empty", Edge.NOT_NOW, () -> y.goBack(1));
        });
        Sentences.test(14, "`slot`: 0 or 1", () -> {
            Edge.takes("keep", 0, 1, (x, slot) -> x.keep(slot));
            for (int slot = 0; slot < 2; slot++) {
                PotLabels x = Edge.pots("5=555");
                x.keep(slot);
                x.mix(5, 0, 0);
                x.goBack(slot);
                Check.equal("the pot 5", 555, Check.colour(x, 5));
            }
        });
        Sentences.test(14, "Returns how many pots have labels", () -> {
            PotLabels x = new PotLabels();
            Check.equal("none", 0, x.keep(0));
            for (int pot = 0; pot < 8; pot++) {
                x.label(pot, 0);
                Check.equal("with labels", pot + 1, x.keep(pot % 2));
            }
            x.label(7, -1);
            Check.equal("one less", 7, x.keep(1));
        });
        Sentences.test(14, "Throws `IllegalArgumentException` if slot is out of range",
                () -> Edge.refusesOutside("keep", Edge.WRONG, 0, 1, (x, slot) -> x.keep(slot)));
    }

    // ---- promise 15

    private static void goBack() {
        Sentences.test(15, "Goes back to a snapshot, which stays", () -> {
            PotLabels x = Edge.made(Edge::busy);
            x.keep(0);
            long kept = x.digest();
            for (int turn = 0; turn < 3; turn++) {
                x.mix(turn, 0, 3);
                x.label(turn, 5);
                x.painter(turn, 1, 9);
                x.borrow(turn, turn + 1);
                x.takeDown(0);
                x.hang(turn, 7);
                x.goBack(0);
                Check.equal("as it was kept", kept, x.digest());
            }
            x.goBack(0);
            Check.equal("without a change", kept, x.digest());
        });
        Sentences.test(15, "Undoable", () -> {
            Edge.On kept = x -> {
                x.keep(1);
                x.mix(0, 0, 9);
                x.label(7, 7);
            };
            Edge.undoable("goBack", kept, x -> x.goBack(1));
            Edge.undoable("goBack without a change", x -> x.keep(0), x -> x.goBack(0));
            Edge.undoable("goBack once more", Edge.both(kept, x -> x.goBack(1)), x -> x.goBack(1));
        });
        Sentences.test(15, "`slot`: 0 or 1", () -> {
            PotLabels x = new PotLabels();
            x.keep(0);
            x.mix(0, 0, 9);
            x.keep(1);
            x.goBack(0);
            Check.equal("the red of the slot 0", 0, x.potOf(0, 0));
            x.goBack(1);
            Check.equal("the red of the slot 1", 9, x.potOf(0, 0));
        });
        Sentences.test(15, "Returns how many pots have labels then", () -> {
            PotLabels x = new PotLabels();
            x.keep(0);
            x.labelAll(0);
            x.keep(1);
            x.label(3, -1);
            Check.equal("eight", 8, x.goBack(1));
            Check.equal("none", 0, x.goBack(0));
            Check.equal("none again", 0, x.goBack(0));
        });
        Sentences.test(15, "Throws `IllegalArgumentException` if slot is out of range", () -> {
            Edge.refusesOutside("goBack", Edge.WRONG, 0, 1, (x, slot) -> x.goBack(slot));
            Edge.refusesOutside("goBack with empty slots", Edge.WRONG, 0, 1, x -> { }, (x, slot) -> x.goBack(slot));
        });
        Sentences.test(15, "Throws `IllegalStateException` if there is no snapshot in it", () -> {
            Edge.refuses("the slot 0", Edge.NOT_NOW, x -> { }, x -> x.goBack(0));
            Edge.refuses("the slot 1", Edge.NOT_NOW, x -> { }, x -> x.goBack(1));
            Edge.refuses("the slot 0 beside a full one", Edge.NOT_NOW, x -> x.keep(1), x -> x.goBack(0));
            Edge.refuses("the slot 1 beside a full one", Edge.NOT_NOW, x -> x.keep(0), x -> x.goBack(1));
            PotLabels x = Edge.made(y -> y.mix(0, 0, 1));
            x.keep(0);
            x.undo();
            Check.equal("undo does not take a snapshot away", 0, x.goBack(0));
        });
    }

    // ---- promise 16

    private static void undo() {
        Sentences.test(16, "Restores the latest saved state, and drops it", () -> {
            PotLabels x = Edge.made(y -> y.mix(0, 0, 1));
            x.mix(0, 0, 2);
            x.undo();
            Check.equal("the latest", 1, x.potOf(0, 0));
            x.undo();
            Check.equal("the one before", 0, x.potOf(0, 0));
            Check.throwing("both are dropped", Edge.NOT_NOW, () -> x.undo());
            x.mix(0, 0, 3);
            x.undo();
            Check.equal("undo itself is not undone", 0, x.count(7));
            Check.equal("the state before", 0, x.potOf(0, 0));
            PotLabels y = Edge.made(z -> z.mix(0, 0, 5));
            y.keep(1);
            Check.type(y, "~~");
            y.undo();
            Check.equal("the buffer stays", 2, y.clearBuffer());
            Check.equal("the slot stays", 0, y.goBack(1));
            Check.equal("with its colour", 5, y.potOf(0, 0));
        });
        Sentences.test(16, "Returns how many saved states are left", () -> {
            PotLabels x = new PotLabels();
            for (int i = 0; i < 7; i++) {
                x.label(i, i);
            }
            for (int left = 5; left >= 0; left--) {
                Check.equal("left", left, x.undo());
                Check.equal("saved states", left, x.count(7));
            }
            Edge.labels(x, "0-------");
        });
        Sentences.test(16, "Throws `IllegalStateException` if there is none", () -> {
            Edge.refuses("undo of a new object", Edge.NOT_NOW, x -> { }, x -> x.undo());
            Edge.refuses("undo behind calls that save nothing", Edge.NOT_NOW, x -> {
                x.keep(0);
                Check.type(x, "0=12");
                x.clearBuffer();
                x.potOf(0, 4);
            }, x -> x.undo());
            Edge.refuses("undo behind undo", Edge.NOT_NOW, x -> {
                x.mix(0, 0, 1);
                x.undo();
            }, x -> x.undo());
        });
    }
}
