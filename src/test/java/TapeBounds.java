/** Boundary cases of promises 1 to 4: a new object, the tape, and texts that tell an order or none. */
final class TapeBounds {
    private static final int NONE = Checks.NONE;
    private static final String BLANKS = " ".repeat(120);

    private final Checks c;

    TapeBounds(Checks c) {
        this.c = c;
    }

    void all() {
        newObject();
        calls();
        feedOrder();
        feedBounds();
        endBounds();
        tell();
        texts();
        kinds();
        kindsInTurn();
        divisors();
        parts();
        lines();
        blanks();
        faultBytes();
        faultEnds();
        faultWords();
        faultLetters();
        faultNumbers();
        faultCircles();
        leastFault();
        refusedTexts();
        behindRefusedTexts();
    }

    private static int fault(int place, int what) {
        return -2 - (8 * place + what);
    }

    private void newObject() {
        c.promise(1, "One ELEMENT.");
        OrderAlgebra x = new OrderAlgebra();
        c.due(1, x.count(0));
        c.due(1, x.about(0, 0));
        c.due(NONE, x.about(1, 0));
        c.term("At first there is one ELEMENT.");
        c.due(0, x.count(1));
        c.due(1, x.count(7));
        c.due(0, x.count(8));
        c.due(NONE, x.undo());
        c.due(0, x.count(9));
        c.due(0, x.count(10));
        c.term("An ORDER has ELEMENTS 0, 1, .., 1 to 16;");
        c.due(1, Texts.told("free 1"));
        c.due(16, Texts.told("free 16"));
        c.due(fault(5, 2), Texts.told("free 0"));
        c.due(fault(5, 2), Texts.told("free 17"));
    }

    private void calls() {
        c.term("The constants: `NONE = -1`: None.");
        c.due(-1, OrderAlgebra.NONE);
        c.term("An object is used for at most 512 calls after it has been made;");
        OrderAlgebra x = new OrderAlgebra();
        for (int call = 1; call <= 511; call++) {
            c.due(1, x.put(0, 0, 0, call));
        }
        c.due(511, x.value(0, 0, 0));
        x = new OrderAlgebra();
        for (int call = 1; call <= 511; call++) {
            x.data(0, call);
        }
        c.due(7, x.undo());
        // free, but no call may throw: here no answer is looked at
        c.term("what later calls answer is free.");
        for (int call = 0; call < 2000; call++) {
            x.data(0, call);
            x.undo();
            x.keep(0);
        }
    }

    /** Twenty blanks with a sign among them that cannot stand there: the fault tells where it came to stand. */
    private void feedOrder() {
        c.promise(2, "Twenty bytes come behind the TAPE, of each number the highest first: how many it has;");
        for (int place = 0; place < 120; place++) {
            String text = BLANKS.substring(0, place) + "?" + BLANKS.substring(place + 1);
            OrderAlgebra x = new OrderAlgebra();
            for (int from = 0; from < 120; from += 20) {
                c.due(from + 20, Texts.feed(x, text, from));
                c.due(from + 20, x.count(9));
            }
            c.due(fault(place, 1), x.tell());
        }
        OrderAlgebra x = new OrderAlgebra();
        c.due(20, x.feed(0x63686169, 0x6e203132, 0x20202020, 0x20202020, 0x20202020));
        c.due(12, x.tell());
        c.due(20, x.feed(0x63686169, 0x6e203120, 0x20202020, 0x20202020, 0x80000000));
        c.due(fault(16, 1), x.tell());
        c.due(20, x.feed(0x63686169, 0x6e203120, 0x20202020, 0x20202020, 0x202020ff));
        c.due(fault(19, 1), x.tell());
    }

    private static OrderAlgebra withBytes(int n) {
        OrderAlgebra x = new OrderAlgebra();
        for (int from = 0; from < n; from += 20) {
            Texts.feed(x, BLANKS, from);
        }
        x.end(n);
        return x;
    }

    private void feedBounds() {
        c.promise(2, "NONE, and none comes, if it would have more than 120.");
        for (int n : new int[] {0, 1, 79, 80, 99, 100}) {
            OrderAlgebra x = withBytes(n);
            c.due(n + 20, x.feed(0, 0, 0, 0, 0));
            c.due(n + 20, x.count(9));
            c.due(fault(n, 1), x.tell());
        }
        for (int n : new int[] {101, 119, 120}) {
            c.refused(NONE, () -> withBytes(n), x -> x.feed(0, 0, 0, 0, 0), x -> x.feed(-1, -1, -1, -1, -1));
        }
        c.refused(NONE, Checks::sixteen, x -> x.feed(0x63756265, 0x20322020, 0x20202020, 0x20202020, 0x20202020));
        OrderAlgebra x = withBytes(120);
        c.due(NONE, x.feed(0, 0, 0, 0, 0));
        c.due(100, x.end(100));
        c.due(120, x.feed(0x63756265, 0x20322020, 0x20202020, 0x20202020, 0x20202020));
        c.due(4, x.tell());
        c.due(20, x.feed(0, 0, 0, 0, 0));
    }

    private void endBounds() {
        c.promise(3, "The TAPE has its first n bytes alone: n;");
        OrderAlgebra x = withBytes(120);
        for (int n : new int[] {120, 119, 100, 1, 0, 0}) {
            c.due(n, x.end(n));
            c.due(n, x.count(9));
        }
        Texts.write(x, "chain 12");
        c.due(8, x.end(8));
        c.due(7, x.end(7));
        c.due(27, Texts.feed(x, "6;0<1;14<15         ", 0));
        c.due(16, x.tell());
        c.promise(3, "NONE, and nothing happens, if it has not so many, or n is below 0.");
        c.outside(NONE, OrderAlgebra::new, 0, 0, (y, n) -> y.end(n));
        c.outside(NONE, () -> withBytes(1), 0, 1, (y, n) -> y.end(n));
        c.outside(NONE, Checks::rich, 0, "cube 3".length(), (y, n) -> y.end(n));
        c.outside(NONE, Checks::sixteen, 0, 120, (y, n) -> y.end(n));
        c.refused(NONE, Checks::rich, y -> y.end(20), y -> y.end(120));
        x = withBytes(20);
        c.due(19, x.end(19));
        c.due(NONE, x.end(20));
    }

    private void tell() {
        c.promise(4, "The TAPE, which is empty then, tells an ORDER: how many ELEMENTS;");
        OrderAlgebra x = new OrderAlgebra();
        Texts.write(x, "cube 2");
        c.due(4, x.tell());
        c.due(0, x.count(9));
        c.due(NONE, x.end(1));
        c.due(-3, x.tell());
        c.due(4, x.count(0));
        c.due(1, Texts.tell(x, "cube 0"));
        c.due(16, Texts.tell(x, "cube 4"));
        c.promise(4, "-2 - its FAULT, and but for the TAPE nothing happens.");
        c.due(-3, new OrderAlgebra().tell());
        x = Checks.rich();
        x.feed(0, 0, 0, 0, 0);
        c.due(fault(6, 1), x.tell());
        c.due(0, x.count(9));
        c.due(4, x.count(0));
        c.due(8, x.count(8));
        c.due(7, x.value(2, 0, 3));
    }

    /** The last of 120 bytes counts, and the place behind it can be the one that is wrong. */
    private void texts() {
        c.term("A TEXT (at most 120 bytes): KIND NUMBER { ; LINE }.");
        String begun = "free 16" + BLANKS.substring(0, 108);
        c.due(16, Texts.told(begun + ";0<15"));
        OrderAlgebra x = Texts.of(begun + ";0<15");
        c.due(1 | 1 << 15, x.about(0, 1));
        c.due(fault(118, 3), Texts.told(begun + ";0<0 "));
        c.due(fault(118, 3), Texts.told(begun + ";0<00"));
        c.due(fault(118, 2), Texts.told(begun + ";0<16"));
        c.due(fault(119, 1), Texts.told(begun + ";0<1?"));
        c.due(fault(120, 1), Texts.told(begun + ";0<1<"));
        c.due(fault(120, 1), Texts.told(begun + "   ; "));
        c.due(fault(120, 1), Texts.told(begun + ";0<1;"));
        c.due(fault(120, 1), Texts.told(BLANKS));
        c.due(fault(120, 1), Texts.told(BLANKS.substring(4) + "free"));
        c.due(3, Texts.told(BLANKS.substring(5) + "free3"));
        c.due(1, Texts.told("free 1"));
        c.due(2, Texts.told("free 2;0<1"));
        c.due(2, Texts.told("free 2;0<1;0<1"));
        String most = "chain 2" + ";0<1".repeat(28) + " ";
        c.due(120, most.length());
        c.due(2, Texts.told(most));
    }

    /** Numbers from the least to the greatest are taken, those beside them are faults. */
    private void kind(String kind, int least, int greatest, int sizeOfGreatest) {
        int place = kind.length() + 1;
        OrderAlgebra x = new OrderAlgebra();
        c.due(1, Texts.tell(x, kind + " " + least));
        c.due(sizeOfGreatest, Texts.tell(x, kind + " " + greatest));
        c.due(sizeOfGreatest, x.count(0));
        if (least > 0) {
            c.due(fault(place, 2), Texts.tell(x, kind + " " + (least - 1)));
        }
        c.due(fault(place, 2), Texts.tell(x, kind + " " + (greatest + 1)));
        c.due(fault(place, 2), Texts.tell(x, kind + " 4294967296"));
        c.due(fault(place, 2), Texts.tell(x, kind + " 4294967297"));
        c.due(fault(place, 2), Texts.tell(x, kind + " 18446744073709551617"));
        c.due(fault(place, 2), Texts.tell(x, kind + " " + "9".repeat(100)));
        c.due(1, Texts.tell(x, kind + " " + "0".repeat(100) + least));
        c.due(fault(place, 1), Texts.tell(x, kind + " -1"));
    }

    private void kinds() {
        c.term("free (1 to 16 ELEMENTS, none BELOW another one)");
        kind("free", 1, 16, 16);
        c.due(0, Texts.of("free 16").count(1));
        c.due(65535, Texts.of("free 16").count(11) & Texts.of("free 16").count(12));
        c.term("chain (1 to 16: each BELOW those behind it)");
        kind("chain", 1, 16, 16);
        c.due(120, Texts.of("chain 16").count(1));
        c.due(65535, Texts.of("chain 16").about(0, 1));
        c.due(65535, Texts.of("chain 16").about(15, 0));
        c.due(1 << 15, Texts.of("chain 16").about(15, 1));
        c.term("cube (0 to 4: ELEMENT k is the set of bits of k; BELOW, if it lies within, and is another one)");
        kind("cube", 0, 4, 16);
        OrderAlgebra x = Texts.of("cube 4");
        for (int k = 0; k < 16; k++) {
            int within = 0;
            for (int other = 0; other < 16; other++) {
                within |= (other | k) == k ? 1 << other : 0;
            }
            c.due(within, x.about(k, 0));
        }
        c.due(0, Texts.of("cube 0").count(1));
    }

    /** What one text told leaves nothing for the next one. */
    private void kindsInTurn() {
        c.term("A TEXT (at most 120 bytes): KIND NUMBER { ; LINE }.");
        String[] texts = {"free 5", "chain 5", "cube 3", "divisors 30", "parts 3", "free 5;4<0"};
        int[] sizes = {5, 5, 8, 8, 5, 5};
        int[] pairs = {0, 10, 19, 19, 7, 1};
        for (int first = 0; first < texts.length; first++) {
            for (int second = 0; second < texts.length; second++) {
                OrderAlgebra x = Texts.of(texts[first]);
                c.due(sizes[second], Texts.tell(x, texts[second]));
                c.due(pairs[second], x.count(1));
            }
        }
    }

    private void divisors() {
        c.term("divisors (1 to 999, of at most 16 divisors: these, rising; BELOW, if it divides the other one,"
                + " and is another one)");
        kind("divisors", 1, 999, 8);
        for (int number = 0; number <= 1100; number++) {
            int many = 0;
            for (int by = 1; by <= number; by++) {
                many += number % by == 0 ? 1 : 0;
            }
            boolean taken = number >= 1 && number <= 999 && many <= 16;
            c.due(taken ? many : fault(9, 2), Texts.told("divisors " + number));
        }
        OrderAlgebra x = Texts.of("divisors 12");
        int[] dividing = {1, 3, 5, 11, 23, 63};
        for (int e = 0; e < 6; e++) {
            c.due(dividing[e], x.about(e, 0));
        }
        c.due(16, Texts.told("divisors 120"));
        c.due(fault(9, 2), Texts.told("divisors 180"));
    }

    private void parts() {
        c.term("parts (1 to 4: all ways to part so many things, each by the row of numbers of parts, thing by thing,"
                + " a part's number being the least that was not used ahead of its first thing; these rows rising;"
                + " BELOW, if each part lies within a part of the other one, and it is another one).");
        kind("parts", 1, 4, 15);
        OrderAlgebra x = Texts.of("parts 2");
        c.due(2, x.count(0));
        c.due(3, x.about(1, 1));
        x = Texts.of("parts 3");
        int[] finer = {31, 18, 20, 24, 16};
        for (int e = 0; e < 5; e++) {
            c.due(finer[e], x.about(e, 0));
        }
        x = Texts.of("parts 4");
        c.due(1 << 14, x.count(11));
        c.due(1, x.count(12));
        c.due(6 + 6 * 3 + 7, x.count(2));
        // 0011 has below it, as rows: 0012, 0122 and 0123, the last of which is number 14.
        c.due(1 << 3 | 1 << 4 | 1 << 13 | 1 << 14, x.about(3, 0));
    }

    private void lines() {
        c.term("LINE: ELEMENT < ELEMENT { < ELEMENT }: each BELOW the next one from then on.");
        OrderAlgebra x = Texts.of("free 16;0<1<2<3<4<5<6<7<8<9<10<11<12<13<14<15");
        c.due(120, x.count(1));
        x = Texts.of("free 3;2<0");
        c.due(5, x.about(2, 1));
        c.due(2, x.about(1, 1));
        x = Texts.of("free 4;2<3;0<1;1<2");
        c.due(15, x.about(0, 1));
        c.due(15, x.about(3, 0));
        c.due(16, Texts.told("chain 16;0<15;14<15;0<1"));
        c.due(fault(8, 1), Texts.told("free 3;0"));
        c.due(fault(7, 1), Texts.told("free 3;<1"));
    }

    private void blanks() {
        c.term("NUMBERS are digits, as far as they go on, WORDS small letters; blanks (32) stand between as one"
                + " likes.");
        c.due(16, Texts.told("free16;0<15"));
        c.due(16, Texts.told("   free   16   ;   0   <   15   ;   1   <   2   "));
        c.due(12, Texts.told("chain 012"));
        c.due(fault(8, 1), Texts.told("chain 1 2"));
        c.due(fault(0, 1), Texts.told("cha in 12"));
        c.due(fault(0, 1), Texts.told("chainchain 12"));
        c.due(fault(0, 1), Texts.told("CHAIN 12"));
        c.due(fault(9, 2), Texts.told("free 3;0<10"));
        c.due(fault(11, 1), Texts.told("free 3;0<1 0"));
        c.due(3, Texts.told("free 3;0<1 <2"));
        c.due(7, Texts.of("free 3;0<1 <2").about(0, 1));
        c.due(7, Texts.of("free 3;0<1< 2").about(0, 1));
        for (int sign : new int[] {9, 10, 13, 31, 33, 160}) {
            c.due(fault(4, 1), Texts.told("free" + (char) sign + "3"));
        }
    }

    /** Each of the 256 bytes behind a text: how it is told, by what the byte is. */
    private void behind(String text, Checks.CallWith want) {
        for (int sign = 0; sign < 256; sign++) {
            c.due(want.on(null, sign), Texts.told(text + (char) sign));
        }
    }

    private static boolean isLetter(int sign) {
        return sign >= 'a' && sign <= 'z';
    }

    private static boolean isDigit(int sign) {
        return sign >= '0' && sign <= '9';
    }

    private void faultBytes() {
        c.term("1 a byte or WORD that cannot stand there, or the text ends (the place behind its last byte);");
        behind("", (x, sign) -> sign == ' ' ? fault(1, 1) : fault(0, 1));
        behind("free", (x, sign) -> isLetter(sign) ? fault(0, 1) : sign == ' ' ? fault(5, 1)
                : sign == '0' ? fault(4, 2) : isDigit(sign) ? sign - '0' : fault(4, 1));
        behind("free ", (x, sign) -> sign == ' ' ? fault(6, 1) : sign == '0' ? fault(5, 2)
                : isDigit(sign) ? sign - '0' : fault(5, 1));
        behind("free 3", (x, sign) -> sign == ' ' ? 3 : sign == ';' ? fault(7, 1)
                : isDigit(sign) ? fault(5, 2) : fault(6, 1));
        behind("free 3;", (x, sign) -> sign == ' ' || sign >= '0' && sign < '3' ? fault(8, 1)
                : isDigit(sign) ? fault(7, 2) : fault(7, 1));
        behind("free 3;0", (x, sign) -> sign == ' ' || sign == '<' || sign >= '0' && sign < '3' ? fault(9, 1)
                : isDigit(sign) ? fault(7, 2) : fault(8, 1));
        behind("free 3;0<", (x, sign) -> sign == ' ' ? fault(10, 1) : sign == '0' ? fault(9, 3)
                : sign == '1' || sign == '2' ? 3 : isDigit(sign) ? fault(9, 2) : fault(9, 1));
        behind("free 3;0<1", (x, sign) -> sign == ' ' ? 3 : sign == '<' || sign == ';' ? fault(11, 1)
                : isDigit(sign) ? fault(9, 2) : fault(10, 1));
    }

    /** A text cut off behind each of its bytes: within its first word, or where it cannot end, or where it can. */
    private void faultEnds() {
        String whole = "  free  16  ;  0  <  15";
        for (int length = 0; length <= whole.length(); length++) {
            int want = length == 9 ? 1 : 16;
            if (length > 2 && length < 6) {
                want = fault(2, 1);
            } else if (length < 9 || length > 12 && length < 22) {
                want = fault(length, 1);
            }
            c.due(want, Texts.told(whole.substring(0, length)));
        }
    }

    private void faultWords() {
        for (String word : new String[] {"f", "fre", "freee", "efree", "chai", "chains", "cub", "cubes", "divisor",
            "divisorss", "part", "partss", "order", "z".repeat(100)}) {
            c.due(fault(0, 1), Texts.told(word + " 3"));
            c.due(fault(3, 1), Texts.told("   " + word + " 3"));
        }
        c.due(fault(5, 1), Texts.told("free free"));
        c.due(fault(7, 1), Texts.told("free 3 free 3"));
        c.due(fault(7, 1), Texts.told("free 3;free"));
        c.due(fault(9, 1), Texts.told("free 3;0<x1"));
    }

    /** Words that differ from a kind's word in one letter alone. */
    private void faultLetters() {
        c.term("1 a byte or WORD that cannot stand there, or the text ends (the place behind its last byte);");
        for (String word : new String[] {"free", "chain", "cube", "divisors", "parts"}) {
            c.due(1, Texts.told(word + " 1") > 0 ? 1 : 0);
            for (int place = 0; place < word.length(); place++) {
                char other = word.charAt(place) == 'z' ? 'a' : (char) (word.charAt(place) + 1);
                c.due(fault(0, 1), Texts.told(word.substring(0, place) + other + word.substring(place + 1) + " 1"));
            }
        }
    }

    private void faultNumbers() {
        c.term("FAULT of a text that is none: of the first place along it that is wrong (0 the first byte), 8 times"
                + " the place and:");
        c.due(fault(5, 2), Texts.told("free 17?"));
        c.due(fault(5, 2), Texts.told("free 0;0<0"));
        c.due(fault(7, 2), Texts.told("free 3;3<0<0?"));
        c.due(fault(9, 3), Texts.told("free 3;1<1<7"));
        c.due(fault(8, 1), Texts.told("free 3;0?<0<9"));
        c.due(fault(0, 1), Texts.told("?free 17"));
        c.term("2 a NUMBER, an ELEMENT (where it begins) that is not as told, not there;");
        c.due(fault(8, 2), Texts.told("free    0017"));
        c.due(fault(7, 2), Texts.told("free 3;3<0"));
        c.due(3, Texts.told("free 3;2<0"));
        c.due(fault(11, 2), Texts.told("free 3;0<  0003"));
        c.due(fault(11, 2), Texts.told("free 3;0<1<3"));
        c.due(fault(9, 2), Texts.told("free 3;0<4294967297"));
        c.due(fault(8, 2), Texts.told("free 16;16<0"));
        c.due(fault(7, 2), Texts.told("cube 0;1<0"));
        c.due(fault(11, 2), Texts.told("divisors 4;3<4"));
    }

    private void faultCircles() {
        c.term("3 an ELEMENT (where it begins) by which one would be BELOW itself.");
        c.due(fault(9, 3), Texts.told("free 1;0<0"));
        c.due(fault(11, 3), Texts.told("free 3;0<  0000"));
        c.due(fault(11, 3), Texts.told("free 3;0<1<0"));
        c.due(fault(11, 3), Texts.told("free 3;0<1<1"));
        c.due(fault(15, 3), Texts.told("free 3;0<1<2;2<0"));
        c.due(fault(17, 3), Texts.told("free 3;1<2;0<1;2<0"));
        c.due(fault(12, 3), Texts.told("chain 16;15<0"));
        c.due(fault(9, 3), Texts.told("cube 1;1<0"));
        c.due(2, Texts.told("cube 1;0<1"));
        c.due(fault(13, 3), Texts.told("divisors 7;1<0"));
        c.due(2, Texts.told("parts 2;1<0"));
        c.due(fault(10, 3), Texts.told("parts 2;0<1"));
    }

    /** A number where no number can stand is not as told, too: the byte that cannot stand there is the lesser one. */
    private void leastFault() {
        c.term("Of one place the least.");
        c.due(fault(7, 1), Texts.told("free 3 99"));
        c.due(fault(11, 1), Texts.told("free 3;0<1 0"));
        c.due(fault(11, 1), Texts.told("free 3;0<1 99"));
        c.due(fault(9, 1), Texts.told("free 3;0 0"));
        c.due(fault(0, 1), Texts.told("17 free"));
    }

    private void refusedTexts() {
        c.promise(4, "-2 - its FAULT, and but for the TAPE nothing happens.");
        for (String text : new String[] {"", "free", "free 17", "free 3;0<3", "chain 4;0<1;3<0", "cube 2;0<1?"}) {
            OrderAlgebra x = Checks.rich();
            x.end(0);
            Texts.write(x, text);
            x.tell();
            OrderAlgebra twin = Checks.rich();
            twin.end(0);
            c.alike(twin, x);
        }
    }

    /** What a refused text had told ahead of its fault is not left for the next act. */
    private void behindRefusedTexts() {
        for (String text : new String[] {"chain 5;0<1?", "free 2;1<0;0<1", "chain 16;0"}) {
            OrderAlgebra x = Texts.of("free 4;3<2");
            Texts.tell(x, text);
            c.due(2, x.relate(0, 1));
            c.due(4, x.count(0));
            c.due(2, x.count(1));
            x = Texts.of("free 4;3<2");
            Texts.tell(x, text);
            c.due(4, x.form(0, 0, 0));
            c.due(1, x.count(1));
            c.due(4 | 8, x.about(2, 1));
        }
    }
}
