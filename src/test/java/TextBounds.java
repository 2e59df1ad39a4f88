/** Sentences about TEXTS, and how a BRIDGE is told by one: promises 8 to 11. */
final class TextBounds extends Bounds {
    static void all() {
        blanks();
        firstItem();
        people();
        quarrels();
        faults();
        faultsOfPeople();
        faultsOfEnds();
        kindsAndLetters();
        promise8();
        promise9();
        promise10();
        promise11();
    }

    private static void blanks() {
        terms("10, 11", "A BRIDGE (without PEOPLE at first) is a TEXT:", x -> {
            due(x.count(0), 0);
            refused(x, STATE, () -> x.load(0));
            bridgeOf(x, "h409t12b34", 2);
            due(x.count(0), 2);
        });
        terms("10", "blanks (32) ahead, between, behind as many as wanted, none within items.", x -> {
            due(faultOf("h409t12b34q01"), NONE);
            due(faultOf(" h409 t12 b34 q01 "), NONE);
            due(faultOf("     h409      t12    b34      q01       "), NONE);
            due(faultOf(" ".repeat(50) + "h409t12b34"), NONE);
            due(faultOf("h409t12b34" + " ".repeat(50)), NONE);
            due(faultOf("h 409t12b34"), 1);
            due(faultOf("h4 09t12b34"), 2);
            due(faultOf("h40 9t12b34"), 3);
            due(faultOf("h409t 12b34"), 5);
            due(faultOf("h409t1 2b34"), 6);
            due(faultOf("h409t12b34q 01"), 11);
            due(faultOf("h409t12b34q0 1"), 12);
            due(faultOf("\th409t12b34"), 0);
            due(faultOf("h409\tt12b34"), 4);
            due(faultOf("h409t12b34\n"), 10);
            due(faultOf("h409t12b34" + (char) 0), 10);
            due(faultOf("h409t12b34" + (char) (32 + 128)), 10);
        });
    }

    private static void firstItem() {
        terms("10", "The first item is h (104),", x -> {
            due(faultOf("h409t12b34"), NONE);
            due(faultOf("t12b34h409"), 0);
            due(faultOf("  q01h409t12b34"), 2);
            due(faultOf("H409t12b34"), 0);
            due(faultOf("409t12b34"), 0);
            due(faultOf("g409t12b34"), 0);
            due(faultOf("i409t12b34"), 0);
            due(faultOf("h409t12b34h409"), 10);
            due(faultOf("h409h409t12b34"), 4);
        });
        terms("10, 38", "the STRENGTH (two figures 00 .. 40),", x -> {
            bridgeOf(x, "h009t12b34", 2);
            due(x.count(3), 0);
            bridgeOf(x, "h409t12b34", 2);
            due(x.count(3), 40);
            bridgeOf(x, "h099t12b34", 2);
            due(x.count(3), 9);
            bridgeOf(x, "h399t12b34", 2);
            due(x.count(3), 39);
            due(faultOf("h419t12b34"), 1);
            due(faultOf("h509t12b34"), 1);
            due(faultOf("h999t12b34"), 1);
            due(faultOf("h/09t12b34"), 1);
            due(faultOf("h:09t12b34"), 1);
            due(faultOf("h4/9t12b34"), 2);
            due(faultOf("h0:9t12b34"), 2);
        });
        terms("10, 38", "COFFEE (0 .. 9, one figure).", x -> {
            bridgeOf(x, "h400t12b34", 2);
            due(x.count(4), 0);
            bridgeOf(x, "h009t12b34", 2);
            due(x.count(4), 9);
            due(faultOf("h40/t12b34"), 3);
            due(faultOf("h40:t12b34"), 3);
            due(faultOf("h40t12b34"), 3);
            due(faultOf("h4010t12b34"), 4);
        });
    }

    private static void people() {
        terms("10", "Then items in any order:", x -> {
            due(faultOf("h409t12b34q01l00q02q12c99"), NONE);
            due(faultOf("h409t12b34l00c99q01q02q12"), NONE);
            due(faultOf("h409w00p12c34l56b78t90"), NONE);
            due(faultOf("h409q01t12b34"), 5);
        });
        terms("10, 11", "PEOPLE (2 to 6; 0, 1, .. as they come):", x -> {
            due(faultOf("h409t12"), 7);
            due(faultOf("h409t12q00"), 9);
            bridgeOf(x, "h409t12b34", 2);
            told(x, x.one(1, 0), 1);
            refused(x, BAD, () -> x.one(2, 0));
            bridgeOf(x, "h409w99p88c77l66b55t44", 6);
            told(x, x.one(0, 1), 9);
            told(x, x.one(1, 1), 8);
            told(x, x.one(5, 1), 4);
            refused(x, BAD, () -> x.one(6, 0));
            due(faultOf("h409w99p88c77l66b55t44t33"), 22);
        });
        terms("10, 12", "a letter, how LIVELY (0 .. 9), how long one LASTS (0 .. 9), one figure each;", x -> {
            bridgeOf(x, "h409t09b90", 2);
            told(x, x.one(0, 1), 0);
            told(x, x.one(0, 2), 9);
            told(x, x.one(1, 1), 9);
            told(x, x.one(1, 2), 0);
            due(faultOf("h409t/0b90"), 5);
            due(faultOf("h409t:0b90"), 5);
            due(faultOf("h409t0/b90"), 6);
            due(faultOf("h409t0:b90"), 6);
            due(faultOf("h409t090b90"), 7);
            due(faultOf("h409tb90"), 5);
            due(faultOf("h409t0b90"), 6);
            due(faultOf("h40909b90"), 4);
        });
    }

    private static void quarrels() {
        terms("10", "q (113) and two unlike ones of PEOPLE that are there (one figure each):", x -> {
            due(faultOf("h409t12b34q01"), NONE);
            due(faultOf("h409t12b34q10"), NONE);
            due(faultOf("h409t12b34l00c00p00w00q05q50q45q40"), NONE);
            due(faultOf("h409t12b34q00"), 12);
            due(faultOf("h409t12b34q11"), 12);
            due(faultOf("h409t12b34q02"), 12);
            due(faultOf("h409t12b34q20"), 11);
            due(faultOf("h409t12b34q010"), 13);
            due(faultOf("h409t12b34Q01"), 10);
            due(faultOf("h409t12b34r01"), 10);
            due(faultOf("h409t12b34q/1"), 11);
            due(faultOf("h409t12b34q:1"), 11);
            due(faultOf("h409t12b34q1/"), 12);
            due(faultOf("h409t12b34q0:"), 12);
        });
        terms("10, 12, 14", "they QUARREL (told again: nothing more).", x -> {
            bridgeOf(x, "h409t59t59t59q01q01q10q01", 3);
            told(x, x.one(0, 5), 2);
            told(x, x.one(1, 5), 1);
            told(x, x.one(2, 5), 0);
            due(x.talk(0, 1), 7);
            due(x.talk(0, 2), 10);
        });
    }

    private static void faults() {
        terms("10", "A FAULT is the first place at which it can't go on so", x -> {
            due(faultOf("x41x"), 0);
            due(faultOf("h41xt12"), 1);
            due(faultOf("h40xy"), 3);
            due(faultOf("h409xh"), 4);
            due(faultOf("h409t12q01x"), 9);
            due(faultOf("h409t12b34qxy"), 11);
            due(faultOf("h409t12t12t12t12t12t12x"), 22);
            due(faultOf("h409t12x"), 7);
        });
        terms("10", "(a letter,", x -> {
            String letters = "tblcpw";
            for (char sign = 0; sign < 256; sign++) {
                int want = letters.indexOf(sign) >= 0 ? NONE : sign == ' ' || sign == 'q' ? 8 : 7;
                due(faultOf("h409t12" + sign + "99b34"), want);
            }
        });
        terms("10", "a figure that is none such,", x -> {
            for (char sign = 0; sign < 256; sign++) {
                boolean figure = sign >= '0' && sign <= '9';
                due(faultOf("h0" + sign + "0t12b34"), figure ? NONE : 2);
                due(faultOf("h9" + sign + "0t12b34"), figure ? 1 : 2);
                due(faultOf("h00" + sign + "t12b34"), figure ? NONE : 3);
                due(faultOf("h000t" + sign + "2b34"), figure ? NONE : 5);
                due(faultOf("h000t1" + sign + "b34"), figure ? NONE : 6);
                boolean first = sign >= '0' && sign <= '4';
                due(faultOf("h" + sign + "00t12b34"), first ? NONE : 1);
                due(faultOf("h000t12b34q" + sign + "0"), sign == '1' ? NONE : sign == '0' ? 12 : 11);
                due(faultOf("h000t12b34q0" + sign), sign == '1' ? NONE : 12);
            }
        });
    }

    private static void faultsOfPeople() {
        terms("10", "one of PEOPLE who is not there yet,", x -> {
            due(faultOf("h409q01t12b34"), 5);
            due(faultOf("h409t12q01b34"), 9);
            due(faultOf("h409t12q10b34"), 8);
            due(faultOf("h409t12b34q02l56"), 12);
            due(faultOf("h409t12b34q20l56"), 11);
            due(faultOf("h409t12b34q09"), 12);
            due(faultOf("h409t12b34q90"), 11);
            due(faultOf("h409t12b34l56c78p90w12q56"), 24);
            due(faultOf("h409t12b34l56c78p90w12q65"), 23);
        });
        terms("10", "or alike,", x -> {
            due(faultOf("h409t12b34q00"), 12);
            due(faultOf("h409t12b34q11"), 12);
            due(faultOf("h409t12q00b34"), 9);
            due(faultOf("h409t12b34q22"), 11);
        });
        terms("10", "a seventh one: its place;", x -> {
            due(faultOf("h409t12t12t12t12t12t12"), NONE);
            due(faultOf("h409t12t12t12t12t12t12t12"), 22);
            due(faultOf("h409t12t12t12t12t12t12  w12"), 24);
            due(faultOf("h409t12t12t12t12t12t12q05q54b12"), 28);
            due(faultOf("h409t12t12t12t12t12t12c"), 22);
        });
        terms("10", "two figures that are not as told: the place of the first of both;", x -> {
            due(faultOf("h409t12b34"), NONE);
            due(faultOf("h419t12b34"), 1);
            due(faultOf("h499t12b34"), 1);
            due(faultOf("h509t12b34"), 1);
            due(faultOf("   h999t12b34"), 4);
            due(faultOf("h41"), 1);
        });
    }

    private static void faultsOfEnds() {
        terms("10", "the TEXT's size, if its end comes too early,", x -> {
            due(faultOf("h"), 1);
            due(faultOf("h4"), 2);
            due(faultOf("h5"), 2);
            due(faultOf("h40"), 3);
            due(faultOf("   h40"), 6);
            due(faultOf("h409t"), 5);
            due(faultOf("h409t1"), 6);
            due(faultOf("h409t12b34q"), 11);
            due(faultOf("h409t12b34q0"), 12);
            due(faultOf(" ".repeat(59) + "h"), 60);
            due(faultOf("h409t12b34" + " ".repeat(48) + "q0"), 60);
        });
        terms("10", "or there are less than 2 PEOPLE,", x -> {
            due(faultOf("h409"), 4);
            due(faultOf("h409    "), 8);
            due(faultOf("h409t12"), 7);
            due(faultOf(" h409 t12 "), 10);
            due(faultOf("h409t12b34"), NONE);
        });
        terms("10", "or there are blanks alone).", x -> {
            due(faultOf(""), 0);
            due(faultOf(" "), 1);
            due(faultOf(" ".repeat(60)), 60);
        });
    }

    private static void kindsAndLetters() {
        terms("12, 13, 38", "KINDS of PEOPLE and letters: 0 TALKER (t, 116), 1 BORE (b, 98; a TALKER), "
                + "2 LOVER (l, 108; a TALKER), 3 CHILD (c, 99; a TALKER), 4 PREACHER (p, 112; a BORE), "
                + "5 WIDOWER (w, 119; a LOVER).", x -> {
            bridgeOf(x, "h000" + (char) 116 + "90" + (char) 98 + "90" + (char) 108 + "90" + (char) 99 + "90"
                    + (char) 112 + "90" + (char) 119 + "90", 6);
            for (int i = 0; i < 6; i++) {
                told(x, x.one(i, 0), i);
            }
            due(x.count(7), 2);
            due(x.mark(4, 1), 6);
            due(x.mark(5, 2), 0);
            finds(x, UNLIKE, () -> x.mark(1, 4));
            finds(x, UNLIKE, () -> x.mark(2, 5));
            finds(x, UNLIKE, () -> x.mark(0, 1));
            finds(x, UNLIKE, () -> x.mark(3, 1));
        });
    }

    private static void promise8() {
        of(8, "A TEXT is there with n blanks: n.", x -> {
            due(x.text(0, 0), 0);
            finds(x, BEYOND, () -> x.put(0, 0, 104));
            due(x.fault(0), 0);
            due(x.text(3, 60), 60);
            due(x.fault(3), 60);
            due(x.count(9), 2);
            for (int i = 0; i < 60; i++) {
                due(x.put(3, i, 104), 1032);
            }
            due(x.text(3, 59), 59);
            due(x.put(3, 0, 1), 1032);
            due(x.put(3, 58, 1), 1032);
            due(x.text(3, 60), 60);
            due(x.put(3, 0, 1), 1032);
            due(x.put(3, 59, 1), 1032);
        });
        of(8, "BAD: also n above 60;", x -> {
            due(x.text(0, 60), 60);
            due(x.put(0, 0, 104), 1032);
            refused(x, BAD, () -> x.text(0, 61));
            refused(x, BAD, () -> x.text(0, MAX));
            refused(x, BAD, () -> x.text(1, 61));
            refused(x, BAD, () -> x.text(-1, 3));
            refused(x, BAD, () -> x.text(4, 3));
            refused(x, BAD, () -> x.text(MAX, 0));
            refused(x, BAD, () -> x.text(MIN, 0));
            refused(x, BAD, () -> x.text(4, -1));
            refused(x, BAD, () -> x.text(-1, 61));
        });
        of(8, "SIZE: below 0.", x -> {
            textOf(x, 0, "h409");
            finds(x, SIZE, () -> x.text(0, -1));
            finds(x, SIZE, () -> x.text(0, MIN));
            due(x.put(0, 3, 1), 1000 + '9');
            finds(x, SIZE, () -> x.text(3, -1));
            finds(x, NOTHING, () -> x.fault(3));
        });
    }

    private static void promise9() {
        of(9, "Byte i of a TEXT is v, cut to a byte (-128 .. 127): what it was, and 1000 more.", x -> {
            due(x.text(3, 60), 60);
            due(x.put(3, 59, 127), 1032);
            due(x.put(3, 59, -128), 1127);
            due(x.put(3, 59, 128), 872);
            due(x.put(3, 59, 255), 872);
            due(x.put(3, 59, 256), 999);
            due(x.put(3, 59, -129), 1000);
            due(x.put(3, 59, 383), 1127);
            due(x.put(3, 59, -256), 1127);
            due(x.put(3, 59, MAX), 1000);
            due(x.put(3, 59, MIN), 999);
            due(x.put(3, 59, 1000), 1000);
            due(x.put(3, 59, 0), 1000 - 24);
            due(x.put(3, 0, 7), 1032);
            due(x.put(3, 58, 7), 1032);
            due(x.asked(), 0);
        });
        of(9, "BAD; NOTHING; BEYOND.", x -> {
            refused(x, BAD, () -> x.put(-1, 0, 1));
            refused(x, BAD, () -> x.put(4, 0, 1));
            refused(x, BAD, () -> x.put(MAX, -1, 1));
            finds(x, NOTHING, () -> x.put(3, 0, 1));
            finds(x, NOTHING, () -> x.put(0, -1, 1));
            due(x.text(0, 2), 2);
            finds(x, BEYOND, () -> x.put(0, -1, 1));
            finds(x, BEYOND, () -> x.put(0, 2, 1));
            finds(x, BEYOND, () -> x.put(0, MAX, 1));
            finds(x, BEYOND, () -> x.put(0, MIN, 1));
            due(x.text(1, 0), 0);
            finds(x, BEYOND, () -> x.put(1, 0, 1));
            due(x.text(2, 60), 60);
            finds(x, BEYOND, () -> x.put(2, 60, 1));
        });
    }

    private static void promise10() {
        of(10, "A FAULT of a TEXT; NONE: there is none.", x -> {
            textOf(x, 3, "h409t12b34");
            textOf(x, 0, "h409t12b3");
            aside(x, NONE, () -> x.fault(3));
            aside(x, 9, () -> x.fault(0));
            due(x.put(3, 0, 103), 1104);
            aside(x, 0, () -> x.fault(3));
            due(x.put(3, 0, 104 + 256), 1103);
            aside(x, NONE, () -> x.fault(3));
            due(x.count(0), 0);
        });
        of(10, "BAD; NOTHING.", x -> {
            refused(x, BAD, () -> x.fault(-1));
            refused(x, BAD, () -> x.fault(4));
            refused(x, BAD, () -> x.fault(MIN));
            finds(x, NOTHING, () -> x.fault(0));
            finds(x, NOTHING, () -> x.fault(3));
            due(x.text(3, 0), 0);
            due(x.fault(3), 0);
        });
    }

    private static void promise11() {
        of(11, "A BRIDGE by a TEXT (anew: HOUR 0, nobody was UP, no DEEDS; kept BRIDGES go): how many PEOPLE.", x -> {
            bridgeOf(x, "h305t90t90t90q01", 3);
            watches(x, 2, 0, 1);
            due(x.coffee(0), 4);
            due(x.load(0), 1);
            due(x.load(60), 0);
            for (int k = 0; k < 3; k++) {
                due(x.keep(k), 5);
            }
            textOf(x, 3, "h127l11b22w33");
            due(x.bridge(3), 3);
            int[] counts = {3, 0, 0, 12, 7, 0, 0, 2, 0, 2, 0};
            for (int what = 0; what < counts.length; what++) {
                due(x.count(what), counts[what]);
            }
            for (int i = 0; i < 3; i++) {
                told(x, x.one(i, 3), 0);
                told(x, x.one(i, 5), 0);
            }
            refused(x, BAD, () -> x.undo(1));
            for (int k = 0; k < 3; k++) {
                int gone = k;
                finds(x, NOTHING, () -> x.on(gone));
            }
            due(x.put(3, 5, '9'), 1000 + '1');
            told(x, x.one(0, 1), 1);
            bridgeOf(x, "h409t12b34l56c78p90w12", 6);
            bridgeOf(x, "h409t12b34", 2);
            due(x.count(0), 2);
        });
        of(11, "BAD; NOTHING; STATE: a FAULT.", x -> {
            refused(x, BAD, () -> x.bridge(-1));
            refused(x, BAD, () -> x.bridge(4));
            refused(x, BAD, () -> x.bridge(MAX));
            finds(x, NOTHING, () -> x.bridge(0));
            bridgeOf(x, "h305t90t90q01", 2);
            due(x.keep(1), 0);
            watches(x, 1, 0, 1);
            for (String signs : new String[] {"", " ", "h41", "h129l11", "h129l11b22w33q33", "h129l11b22w3"}) {
                textOf(x, 2, signs);
                refused(x, STATE, () -> x.bridge(2));
            }
            due(x.on(1), 0);
        });
        of(11, "(STATE behind NOTHING.)", x -> {
            finds(x, NOTHING, () -> x.bridge(3));
            textOf(x, 3, "h409t12");
            refused(x, STATE, () -> x.bridge(3));
            textOf(x, 0, "h409t12b34");
            due(x.bridge(0), 2);
            finds(x, NOTHING, () -> x.bridge(1));
        });
    }
}
