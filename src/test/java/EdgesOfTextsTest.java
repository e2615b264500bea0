/** Each sentence that names an edge of texts and their FAULTS: "Terms" 1, promises 1 to 4. */
public final class EdgesOfTextsTest {
    private static final int NONE = OutOfPlace.NONE;
    private static final int UNKNOWN = OutOfPlace.UNKNOWN;
    private static final int OUTSIDE = OutOfPlace.OUTSIDE;
    private static final int FULL = OutOfPlace.FULL;
    private static final Due due = new Due("EdgesOfTextsTest");

    public static void main(String[] args) {
        callsOfOneObject();
        noBooksAtFirst();
        bytesOfALong();
        behindTheText();
        bytesOutside();
        fullText();
        atMost24Books();
        atMost600Bytes();
        numbersOfBooks();
        partsOfAMark();
        lettersOfAClass();
        lettersAreAToZ();
        figuresOfANumber();
        figuresOfDecimals();
        figuresOfACutter();
        figuresOfAYear();
        boundsOfAYear();
        widths();
        signsOfFigures();
        behindABlank();
        sideBySide();
        blanksThatMayStand();
        blankIs32();
        atTheFirstByte();
        atTheEnd();
        cannotStand();
        oneSignTooMany();
        yearAtItsFirstFigure();
        the25thAtItsClass();
        markThereAlready();
        marksThatAreOther();
        markOfThisTextToo();
        withAFaultNone();
        leftoversOfAFault();
        emptyText();
        textIsEmptyThen();
        howManyInAll();
        tenLessItsNumber();
        latestFault();
        due.end();
    }

    private static void callsOfOneObject() {
        due.sentence("An object is used for at most 512 calls after it has been made");
        OutOfPlace x = new OutOfPlace();
        for (int call = 1; call <= 512; call += 2) {
            due.is("call " + call, x.feed(8, 0x2020202020202020L), 8);
            due.is("call " + (call + 1), x.books(), 0);
        }
        OutOfPlace y = Due.told("a1;");
        for (int call = 3; call <= 512; call += 2) {
            due.is("call " + call, y.put(0, 0), 0);
            due.is("call " + (call + 1), y.take(0), 0);
        }
    }

    private static void noBooksAtFirst() {
        due.sentence("No BOOKS");
        due.is("books", new OutOfPlace().count(0), 0);
        due.is("that stand", new OutOfPlace().count(1), 0);
        due.is("bytes", new OutOfPlace().count(2), 0);
        due.is("of the list", new OutOfPlace().count(3), 0);
        due.is("book 0", new OutOfPlace().book(0, 0), UNKNOWN);
        due.is("place 0", new OutOfPlace().order(0, 0), NONE);
        due.is("no books() yet", new OutOfPlace().fault(), NONE);
    }

    private static void bytesOfALong() {
        due.sentence("The lowest n bytes (1 .. 8) of a long, the highest of these first");
        for (int n = 1; n <= 8; n++) {
            OutOfPlace x = new OutOfPlace();
            due.is("feed " + n, x.feed(n, 0x7131323334352E3BL), n);
            String text = "q12345.;".substring(8 - n);
            OutOfPlace y = new OutOfPlace();
            Due.feed(y, text);
            due.is("books of " + text, x.books(), y.books());
            due.is("fault of " + text, x.fault(), y.fault());
        }
        OutOfPlace z = new OutOfPlace();
        z.feed(8, 0x7137372E37773B20L);
        due.is("eight, the highest first", z.books(), -11);
        due.is("at the w", z.fault(), 5);
        z.feed(8, 0x202071372E373B20L);
        due.is("eight, the highest first", z.books(), 1);
        due.textIs("mark", Due.mark(z, 0), "q7.7");
        due.is("those above do not come", z.feed(3, 0xFFFFFFFFFF61313BL), 3);
        due.is("a long below 0", z.books(), 2);
        due.is("eight of a long below 0", z.feed(8, Long.MIN_VALUE), 8);
        due.is("the first is 128", z.books(), -11);
        due.is("at it", z.fault(), 0);
    }

    private static void behindTheText() {
        due.sentence("come behind THE TEXT: how many it has");
        OutOfPlace x = new OutOfPlace();
        due.is("to none", x.feed(1, 'a'), 1);
        due.is("to one", x.feed(2, 0x3132L), 3);
        due.is("to three", x.feed(8, 0x2E35203B20623120L), 11);
        due.is("bytes", x.count(2), 11);
        due.is("to eleven", x.feed(1, ';'), 12);
        due.is("all together", x.books(), 2);
        due.textIs("the first", Due.mark(x, 0), "a12.5");
        due.textIs("the second", Due.mark(x, 1), "b1");
    }

    private static void bytesOutside() {
        due.sentence("n bytes (1 .. 8)", "OUTSIDE beside them");
        OutOfPlace x = new OutOfPlace();
        for (int n : new int[] {0, 9, -1, 16, Integer.MIN_VALUE, Integer.MAX_VALUE}) {
            due.is("feed " + n, x.feed(n, -1L), OUTSIDE);
            due.is("none came", x.count(2), 0);
        }
    }

    private static void fullText() {
        due.sentence("FULL (600)");
        for (int n = 1; n <= 8; n++) {
            OutOfPlace x = new OutOfPlace();
            Due.feed(x, Due.blanks(600 - n));
            due.is("one too many", n == 8 ? FULL : x.feed(n + 1, 0), FULL);
            due.is("none came", x.count(2), 600 - n);
            due.is("up to 600", x.feed(n, 0x2020202020202020L), 600);
            due.is("full", x.feed(1, 32), FULL);
            due.is("what came is as it was", x.books(), 0);
            due.is("room again", x.feed(8, 32), 8);
        }
    }

    private static void atMost24Books() {
        due.sentence("BOOKS (24 at most) are told in a text");
        String text = Due.row(24, 2);
        due.goodText(text, 24);
        due.faultyText(text + "b1;", 4, text.length());
        OutOfPlace x = Due.told(Due.row(23, 2));
        due.is("two more", Due.tell(x, "b1;b2;"), -14);
        due.is("neither came", x.count(0), 23);
        due.is("one more", Due.tell(x, "b1;"), 24);
        due.is("the last one", x.book(23, 0), 1);
        due.is("none behind it", x.book(24, 0), UNKNOWN);
        due.is("one too many", Due.tell(x, "b2;"), -14);
        due.is("24 as before", x.count(0), 24);
    }

    private static void atMost600Bytes() {
        due.sentence("a text (600 bytes at most)");
        due.goodText("a1" + Due.blanks(597) + ";", 1);
        due.goodText(Due.blanks(597) + "a1;", 1);
        due.goodText("a1;" + Due.blanks(597), 1);
        due.faultyText("a1" + Due.blanks(598), 1, 600);
        due.faultyText(Due.blanks(599) + "a", 1, 600);
        due.faultyText(Due.blanks(599) + ";", 1, 599);
        StringBuilder text = new StringBuilder();
        for (int n = 10; n < 34; n++) {
            text.append("ab1203.0450.c00").append(n).append(" y2024 ;");
        }
        due.is("the longest marks", text.length(), 600);
        due.goodText(text.toString(), 24);
        due.textIs("the last one", Due.mark(Due.told(text.toString()), 23), "ab1203.0450.c0033 y2024");
    }

    private static void numbersOfBooks() {
        due.sentence("What has a number has it from 0 on, as it comes");
        OutOfPlace x = Due.told("b3;a1;");
        Due.tell(x, "c9;c9");
        Due.tell(x, "a2;");
        int[] numbers = {3, 1, 2};
        for (int b = 0; b < 3; b++) {
            due.is("book " + b, x.book(b, 0), numbers[b]);
        }
    }

    private static void partsOfAMark() {
        due.sentence("MARK = class number ['.' decimals] ['.' cutter] [year]");
        String[] marks = {"ab12", "ab12.34", "ab12.c56", "ab12.34.c56",
            "ab12 y1990", "ab12.34 y1990", "ab12.c56 y1990", "ab12.34.c56 y1990"};
        for (String mark : marks) {
            due.goodText(mark + ";", 1);
            due.textIs("mark", Due.mark(Due.told(mark + " w1;"), 0), mark);
            due.is("year of " + mark, Due.told(mark + ";").book(0, 1), mark.endsWith("y1990") ? 1990 : NONE);
        }
        due.goodText(String.join(";", marks) + ";", 8);
        due.faultyText("12ab;", 1, 0);
        due.faultyText("ab12.c56.34;", 1, 8);
        due.faultyText("ab12 y1990.34;", 1, 10);
        due.faultyText("ab12 y1990 .c56;", 1, 11);
        due.faultyText("y1990 ab12;", 1, 6);
        due.goodText("y1990;w3;", 2);
    }

    private static void lettersOfAClass() {
        due.sentence("class = one or two LETTERS");
        due.faultyText("1;", 1, 0);
        due.goodText("a1;", 1);
        due.goodText("ab1;", 1);
        due.faultyText("abc1;", 2, 2);
        due.textIs("one", Due.mark(Due.told("a1;"), 0), "a1");
        due.textIs("two", Due.mark(Due.told("ab1;"), 0), "ab1");
    }

    private static void lettersAreAToZ() {
        due.sentence("LETTERS are a to z");
        for (int sign = 0; sign < 256; sign++) {
            String letter = "" + (char) sign;
            boolean isLetter = "abcdefghijklmnopqrstuvwxyz".contains(letter);
            if (isLetter) {
                due.goodText(letter + "1;", 1);
                due.goodText("a" + letter + "1;", 1);
                due.goodText("a1." + letter + "1;", 1);
                due.faultyText("ab" + letter + "1;", 2, 2);
            } else {
                due.faultyText(letter + "x;", 1, sign == 32 ? 2 : 0);
                due.faultyText("a" + letter + "x;", 1, sign >= '1' && sign <= '9' ? 2 : 1);
                due.faultyText("a1." + letter + "x;", 1, sign >= '0' && sign <= '9' ? 4 : 3);
            }
        }
    }

    private static void figuresOfANumber() {
        due.sentence("number = one to four figures, the first not 0");
        due.faultyText("a;", 1, 1);
        due.goodText("a1;", 1);
        due.goodText("a9;", 1);
        due.goodText("a10;", 1);
        due.goodText("a1000;", 1);
        due.goodText("a9999;", 1);
        due.faultyText("a10000;", 2, 5);
        due.faultyText("a0;", 1, 1);
        due.faultyText("a01;", 1, 1);
        due.faultyText("ab0;", 1, 2);
        due.is("least", Due.told("a1;").book(0, 0), 1);
        due.is("greatest", Due.told("a9999;").book(0, 0), 9999);
    }

    private static void figuresOfDecimals() {
        due.sentence("decimals = one to four figures");
        due.faultyText("a1.;", 1, 3);
        due.goodText("a1.0;", 1);
        due.goodText("a1.0000;", 1);
        due.goodText("a1.9999;", 1);
        due.faultyText("a1.00000;", 2, 7);
        due.textIs("all are told", Due.mark(Due.told("a1.0000;"), 0), "a1.0000");
    }

    private static void figuresOfACutter() {
        due.sentence("cutter = a LETTER and one to four figures");
        due.faultyText("a1.b;", 1, 4);
        due.goodText("a1.b0;", 1);
        due.goodText("a1.b0000;", 1);
        due.goodText("a1.5.b9999;", 1);
        due.faultyText("a1.b00000;", 2, 8);
        due.faultyText("a1.5.b00000;", 2, 10);
        due.faultyText("a1.bc1;", 1, 4);
        due.faultyText("a1.5.6;", 1, 5);
        due.faultyText("a1.5.;", 1, 5);
        due.textIs("all are told", Due.mark(Due.told("a1.b0000;"), 0), "a1.b0000");
    }

    private static void figuresOfAYear() {
        due.sentence("year = 'y' and four figures");
        due.faultyText("a1 y;", 1, 4);
        due.faultyText("a1 y199;", 1, 7);
        due.goodText("a1 y1990;", 1);
        due.faultyText("a1 y19900;", 1, 8);
        due.faultyText("a1 1990;", 1, 3);
        due.is("year", Due.told("a1 y1990;").book(0, 1), 1990);
        due.is("no year", Due.told("a1;").book(0, 1), NONE);
    }

    private static void boundsOfAYear() {
        due.sentence("four figures (1000 to 2999)");
        due.goodText("a1 y1000;", 1);
        due.goodText("a1 y2999;", 1);
        due.faultyText("a1 y0999;", 3, 4);
        due.faultyText("a1 y3000;", 3, 4);
        due.faultyText("a1 y0000;", 3, 4);
        due.faultyText("a1 y9999;", 3, 4);
        due.is("first year", Due.told("a1 y1000;").book(0, 1), 1000);
        due.is("last year", Due.told("a1 y2999;").book(0, 1), 2999);
    }

    private static void widths() {
        due.sentence("width = 'w' and a figure 1 to 9 (2 untold)");
        for (int width = 1; width <= 9; width++) {
            due.is("width", Due.told("a1 w" + width + ";").book(0, 2), width);
            due.is("behind a year", Due.told("a1 y1990 w" + width + ";").book(0, 2), width);
        }
        due.is("untold", Due.told("a1;").book(0, 2), 2);
        due.is("untold behind a year", Due.told("a1 y1990;").book(0, 2), 2);
        due.faultyText("a1 w0;", 1, 4);
        due.faultyText("a1 w;", 1, 4);
        due.faultyText("a1 w10;", 1, 5);
        due.is("not of the mark", Due.told("a1 w3;").mark(0, NONE), 2);
    }

    private static void signsOfFigures() {
        due.sentence("year = 'y' and four figures", "every byte in a figure's place");
        for (int sign = 0; sign < 256; sign++) {
            boolean isFigure = "0123456789".indexOf(sign) >= 0;
            String begin = "a1 y199" + (char) sign;
            if (isFigure) {
                due.goodText(begin + ";", 1);
                due.goodText("a1.b1" + (char) sign + ";", 1);
            } else {
                due.faultyText(begin + ";", 1, 7);
            }
            if (isFigure && sign != '0') {
                due.goodText("a1 w" + (char) sign + ";", 1);
            } else {
                due.faultyText("a1 w" + (char) sign + ";", 1, 4);
            }
        }
    }

    private static void behindABlank() {
        due.sentence("year and width stand behind a blank (32) or more");
        due.faultyText("a1y1990;", 1, 2);
        due.faultyText("a1w3;", 1, 2);
        due.faultyText("a1.5y1990;", 1, 4);
        due.faultyText("a1.b5w3;", 1, 5);
        due.faultyText("a1 y1990w3;", 1, 8);
        due.goodText("a1 y1990 w3;", 1);
        due.goodText("a1   y1990   w3;", 1);
        due.faultyText("a1 w3 y1990;", 1, 6);
        due.faultyText("a1 w3 w3;", 1, 6);
        due.faultyText("a1 y1990 y1990;", 1, 9);
        due.textIs("one blank in the mark", Due.mark(Due.told("a1   y1990   w3;"), 0), "a1 y1990");
    }

    private static void sideBySide() {
        due.sentence("all others side by side");
        due.faultyText("a b1;", 1, 1);
        due.faultyText("a 1;", 1, 1);
        due.faultyText("a1 2;", 1, 3);
        due.faultyText("a1 .5;", 1, 3);
        due.faultyText("a1. 5;", 1, 3);
        due.faultyText("a1.5 6;", 1, 5);
        due.faultyText("a1.5 .b6;", 1, 5);
        due.faultyText("a1. b6;", 1, 3);
        due.faultyText("a1.b 6;", 1, 4);
        due.faultyText("a1.b6 7;", 1, 6);
        due.faultyText("a1 y 1990;", 1, 4);
        due.faultyText("a1 y19 90;", 1, 6);
        due.faultyText("a1 w 3;", 1, 4);
    }

    private static void blanksThatMayStand() {
        due.sentence("blanks may stand ahead of a MARK, of ';', too");
        due.goodText(" a1;", 1);
        due.goodText("   a1;   b1;", 2);
        due.goodText("a1 ;", 1);
        due.goodText("a1.5.b6   ;", 1);
        due.goodText("a1 y1990 ;", 1);
        due.goodText("a1 w3   ;", 1);
        due.goodText("   a1   y1990   w3   ;   ", 1);
    }

    private static void blankIs32() {
        due.sentence("a blank (32)");
        for (int sign = 0; sign < 256; sign++) {
            if (sign == 32 || sign == ';') {
                continue;
            }
            due.faultyText((char) sign + "?", 1, sign >= 'a' && sign <= 'z' ? 1 : 0);
            due.faultyText("a1 " + (char) sign + "w3;", 1, sign == 'y' || sign == 'w' ? 4 : 3);
        }
    }

    private static void atTheFirstByte() {
        due.sentence("FAULTS, at the first byte that has one");
        due.faultyText("a1;a1;abc1;", 5, 5);
        due.faultyText("abc1;a1;a1;", 2, 2);
        due.faultyText("a1 y3000;a1;a1;!", 3, 4);
        due.faultyText("a1 y3000!", 3, 4);
        due.faultyText("a1;!a1;", 1, 3);
        due.faultyText("a1.12345;a1 y0000;", 2, 7);
        due.faultyText(Due.row(24, 2) + "1;", 1, Due.row(24, 2).length());
        due.faultyText(Due.row(24, 2) + ";", 1, Due.row(24, 2).length());
        due.faultyText(Due.row(23, 2) + "a1;b1;", 5, Due.row(23, 2).length() + 2);
        due.faultyText(Due.row(23, 2) + "b1 y3000;b1;", 3, Due.row(23, 2).length() + 4);
    }

    private static void atTheEnd() {
        due.sentence("the end at the text's length");
        String whole = "ab12.34.c56  y1990  w3  ";
        for (int n = 1; n <= whole.length(); n++) {
            due.faultyText(whole.substring(0, n), 1, n);
        }
        due.goodText(whole + ";", 1);
        due.faultyText("a1;b1", 1, 5);
        due.faultyText("a1 y3", 1, 5);
        due.faultyText("a1 y3000", 3, 4);
    }

    private static void cannotStand() {
        due.sentence("1 it cannot stand there");
        due.faultyText(";", 1, 0);
        due.faultyText("a1;;", 1, 3);
        due.faultyText("a1..b2;", 1, 3);
        due.faultyText("a1.2.3;", 1, 5);
        due.faultyText("a1.b2.3;", 1, 5);
        due.faultyText("a1.b2.c3;", 1, 5);
        due.faultyText("a1.5b2;", 1, 4);
        due.faultyText("a1.b2c;", 1, 5);
        due.faultyText("a1x;", 1, 2);
    }

    private static void oneSignTooMany() {
        due.sentence("2 a third LETTER of a class, a fifth figure of a number, decimals, a cutter (at it)");
        due.faultyText("  abc", 2, 4);
        due.faultyText("a1;zzz", 2, 5);
        due.faultyText("a12345", 2, 5);
        due.faultyText("ab12340", 2, 6);
        due.faultyText("a1.00000", 2, 7);
        due.faultyText("a1.z12345", 2, 8);
        due.faultyText("a1.1234.z12340", 2, 13);
    }

    private static void yearAtItsFirstFigure() {
        due.sentence("3 a year out of its bounds (at its first figure)");
        due.faultyText("a1    y0999;", 3, 7);
        due.faultyText("a1.5.b6 y3000 w3;", 3, 9);
        due.faultyText("a1;b1 y9999", 3, 7);
        due.faultyText("a1 y30000;", 3, 4);
    }

    private static void the25thAtItsClass() {
        due.sentence("4 a 25th BOOK (at its class)");
        OutOfPlace x = Due.told(Due.row(24, 2));
        String[] texts = {"b1;", "   b1;", "b", "bcd1;", "b!", "b1 y0000;", "a1;"};
        for (String text : texts) {
            due.is("books of " + text, Due.tell(x, text), -14);
            due.is("fault of " + text, x.fault(), text.startsWith(" ") ? 3 : 0);
            due.is("24 as before", x.count(0), 24);
        }
        due.is("no class", Due.tell(x, " 1;"), -11);
        due.is("at it", x.fault(), 1);
        due.is("blanks", Due.tell(x, "  "), 24);
    }

    private static void markThereAlready() {
        due.sentence("5 a MARK that is there already", "of an earlier text");
        String[] marks = {"a1", "ab1", "a1.5", "a1.b5", "a1.5.b6", "a1 y1990", "ab9999.9999.z9999 y2999"};
        for (String mark : marks) {
            OutOfPlace x = Due.told("q1;" + mark + ";q2;");
            due.is("again " + mark, Due.tell(x, mark + ";"), -15);
            due.is("at the ;", x.fault(), mark.length());
            due.is("of another width", Due.tell(x, mark + " w9 ;"), -15);
            due.is("at the ;", x.fault(), mark.length() + 4);
            due.is("with more blanks", Due.tell(x, "  " + mark.replace(" ", "   ") + "   ;"), -15);
            due.is("three as before", x.count(0), 3);
        }
    }

    private static void marksThatAreOther() {
        due.sentence("5 a MARK that is there already", "another one, if a part is other");
        due.goodText("a1;b1;ab1;ba1;aa1;", 5);
        due.goodText("a1;a10;a100;a1000;", 4);
        due.goodText("a1;a1.0;a1.00;a1.000;a1.0000;", 5);
        due.goodText("a1.5;a1.05;a1.50;a1.0005;a1.5000;", 5);
        due.goodText("a1;a1.a0;a1.a00;a1.a000;a1.a0000;a1.b0;", 6);
        due.goodText("a1.5.b1;a1.b1;a1.5.b10;a1.5.b01;a1.5.c1;", 5);
        due.goodText("a1;a1 y1000;a1 y1001;", 3);
        due.goodText("az1;b1;ba1;", 3);
    }

    private static void markOfThisTextToo() {
        due.sentence("5 a MARK that is there already, of this text, too");
        due.faultyText("a1;a1;", 5, 5);
        due.faultyText("a1;b1;c1;a1 w3;", 5, 14);
        due.faultyText("q9 y2000;q9;q9   y2000;", 5, 22);
    }

    private static void withAFaultNone() {
        due.sentence("A text adds its BOOKS to those there are; with a FAULT none");
        OutOfPlace x = Due.told("a1;a2;");
        due.is("three, then a fault", Due.tell(x, "b1;b2;b3;b4"), -11);
        due.is("two as before", x.count(0), 2);
        due.is("the third is not there", x.book(2, 0), UNKNOWN);
        due.is("nor its mark", x.mark(2, NONE), UNKNOWN);
        due.is("what it told is free", Due.tell(x, "b1;"), 3);
        due.is("those that were stay", x.book(1, 0), 2);
    }

    private static void leftoversOfAFault() {
        due.sentence("with a FAULT none", "nor any part of one");
        String[] faulty = {"zz77.88.y99 y1999 w9 !", "zz77.88.y99 y1999", "zz7777.8888.y99999", "zz7;zz77.88.y99;zz7;"};
        for (String text : faulty) {
            OutOfPlace x = Due.told("a1;");
            Due.tell(x, text);
            due.is("a plain one after " + text, Due.tell(x, "a2;b1;"), 3);
            due.textIs("its mark", Due.mark(x, 1), "a2");
            due.is("its year", x.book(1, 1), NONE);
            due.is("its width", x.book(1, 2), 2);
            due.is("others to hold it against", Due.tell(x, "aa1;a2.0;a2.a0;a2 y1000;"), 7);
            due.is("one letter: ahead of aa", x.ahead(1, 3, 0), 1);
            for (int reading = 0; reading < 5; reading++) {
                for (int other = 4; other < 7; other++) {
                    due.is("ahead of " + other + " by " + reading, x.ahead(1, other, reading), 1);
                }
            }
        }
    }

    private static void emptyText() {
        due.sentence("An empty text (or one of blanks alone) has no FAULT");
        due.goodText("", 0);
        due.goodText(" ", 0);
        due.goodText(Due.blanks(600), 0);
        OutOfPlace x = Due.told("a1;");
        Due.tell(x, "!");
        due.is("empty", x.books(), 1);
        due.is("no fault", x.fault(), NONE);
    }

    private static void textIsEmptyThen() {
        due.sentence("it is empty then, with a FAULT, too");
        OutOfPlace x = new OutOfPlace();
        Due.tell(x, "a1;");
        due.is("bytes", x.count(2), 0);
        due.is("one byte", x.feed(1, '!'), 1);
        due.is("a fault", x.books(), -11);
        due.is("bytes", x.count(2), 0);
        due.is("nothing is left of it", Due.tell(x, "a2;"), 2);
    }

    private static void howManyInAll() {
        due.sentence("come to those that there are: how many there are in all then");
        OutOfPlace x = new OutOfPlace();
        due.is("none", x.books(), 0);
        due.is("two", Due.tell(x, "a1;a2;"), 2);
        due.is("none more", x.books(), 2);
        due.is("three more", Due.tell(x, "b1;b2;b3;"), 5);
    }

    private static void tenLessItsNumber() {
        due.sentence("-10 less the number of its FAULT");
        OutOfPlace x = Due.told(Due.row(23, 2));
        due.is("1", Due.tell(x, "b"), -11);
        due.is("2", Due.tell(x, "bcd"), -12);
        due.is("3", Due.tell(x, "b1 y3000"), -13);
        due.is("4", Due.tell(x, "b1;b"), -14);
        due.is("5", Due.tell(x, "a1;"), -15);
    }

    private static void latestFault() {
        due.sentence("The place (from 0 on) of the byte that has the FAULT of the latest books(); NONE");
        OutOfPlace x = new OutOfPlace();
        due.is("none yet", x.fault(), NONE);
        Due.tell(x, "!");
        due.is("at the first", x.fault(), 0);
        Due.feed(x, "a1;;");
        due.is("of the latest books(), not of the text now", x.fault(), 0);
        x.books();
        due.is("at the last", x.fault(), 3);
        due.is("it stays", x.fault(), 3);
        Due.tell(x, "a1;");
        due.is("none", x.fault(), NONE);
    }
}
