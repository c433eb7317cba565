/** The boundary cases of what the document says of BLANKS, words, numbers and THE FAULT. */
public final class FaultBoundsTest {
    /** Lines 0 to 2 are clauses, 3 is a plane. */
    private static final String CLAIM = "or a b;or - a b;or - a - b;sum 2 a 4 b least 3;";
    /** Every kind of a claim's line; a | is where blanks may stand, a blank where one must. */
    private static final String CLAIM_LINES = "|or a|-|b c|;|sum|2|a|-|3|b c least|-|4|;|sum a least|5|;"
        + "|source a|;|source b|;|step c from b a|;|sink c|;|";
    private static final String PROOF_LINES = "|res|0 1|a|;|weak|4|c|-|d|;|low e|;|top f|;|plane|0|;|add|3 8|;|mul|3 2|;"
        + "|div|10 2|;|clause|3|b|-|c|;|";
    private static final int[] NO_BLANKS = {0, 1, 8, 11, 12, 13, 31, 33, 95, 127, 128, 160, 255};

    public static void main(String[] args) {
        blanks();
        noBlanks();
        words();
        eachLetterOfAWord();
        variablesAreWords();
        digits();
        wordsAtTheirFirstByte();
        numbersAtTheirFirstByte();
        cutOff();
        toldAlready();
        notTold();
        tooMany();
        secondSink();
        linesThatAreNone();
        wrongKindOfLine();
        whatCannotBe();
        theFirstIsTold();
        clausesThatDoNotFollow();
        moreMustCome();
        Check.finish("FaultBoundsTest");
    }

    private static void wrong(String marked) {
        Check.wrongProof(CLAIM, marked);
    }

    private static void bothRight(String between, String must) {
        Check.rightClaim(7, CLAIM_LINES.replace(" ", must).replace("|", between));
        Check.rightProof(CLAIM, 9, PROOF_LINES.replace(" ", must).replace("|", between));
    }

    private static void blanks() {
        Check.says("BLANKS (9, 10, 32) may stand between all in both texts");
        bothRight("", " ");
        bothRight("", "\n");
        bothRight("", "\t");
        bothRight(" ", " ");
        bothRight("\t", "\t");
        bothRight("\n", "\n");
        bothRight(" \n\t", "\t\n ");
    }

    private static void noBlanks() {
        for (int code : NO_BLANKS) {
            char sign = (char) code;
            Check.wrongClaim("or a^" + sign + ";");
            Check.wrongClaim("^" + sign + "or a;");
            Check.wrongClaim("or a;^" + sign);
            wrong("low a^" + sign + ";");
            wrong("low a;^" + sign);
        }
    }

    private static void words() {
        Check.says("words are as many small letters as stand there");
        Check.wrongClaim("^ora;");
        Check.wrongClaim("^orr a;");
        Check.wrongClaim("^o r a;");
        Check.wrongClaim("^sources a;");
        Check.wrongClaim("sum a ^leasta 1;");
        Check.wrongClaim("source a;step b ^froma;");
        wrong("^lowa;");
        wrong("^cla use 3 b;");
        Check.wrongClaim("^orz a;");
        Check.wrongClaim("^zor a;");
        Check.wrongClaim("or ^az;");
        Check.wrongClaim("or ^za;");
        // A word ends ahead of all that is no small letter.
        Check.rightClaim(1, "or-a;");
        Check.rightClaim(1, "sum2a least-1;");
        Check.wrongClaim("or^A;");
        Check.wrongClaim("^oR a;");
        right("res0 1a;");
        right("weak0-c;");
    }

    /** The word is wrong with any of its letters another one, left out, or told twice. */
    private static void letters(String ahead, String word, String behind, boolean claim) {
        for (int k = 0; k < word.length(); k++) {
            String start = word.substring(0, k);
            String end = word.substring(k + 1);
            for (String letter : new String[] {"x", "", word.substring(k, k + 1).repeat(2)}) {
                String marked = ahead + "^" + start + letter + end + behind;
                if (claim) {
                    Check.wrongClaim(marked);
                } else {
                    wrong(marked);
                }
            }
        }
    }

    private static void eachLetterOfAWord() {
        letters("", "or", " a;", true);
        letters("", "sum", " a least 1;", true);
        letters("sum a ", "least", " 1;", true);
        letters("", "source", " a;", true);
        letters("source a;", "step", " b from a;", true);
        letters("source a;step b ", "from", " a;", true);
        letters("source a;", "sink", " a;", true);
        letters("", "res", " 0 1 a;", false);
        letters("", "weak", " 0 c;", false);
        letters("", "low", " a;", false);
        letters("", "top", " a;", false);
        letters("", "plane", " 0;", false);
        letters("", "add", " 3 3;", false);
        letters("", "mul", " 3 2;", false);
        letters("", "div", " 3 2;", false);
        letters("", "clause", " 3 b;", false);
    }

    private static void right(String text) {
        Check.rightProof(CLAIM, 1, text);
    }

    private static void variablesAreWords() {
        Check.says("V is a word of one letter");
        Check.wrongClaim("or ^ab;");
        Check.wrongClaim("or a ^bc;");
        Check.wrongClaim("or - ^aa;");
        Check.wrongClaim("sum 2^ab least 1;");
        Check.wrongClaim("source ^aa;");
        Check.wrongClaim("source a;step ^bb from a;");
        Check.wrongClaim("source a;step b from ^aa;");
        Check.wrongClaim("source a;sink ^aa;");
        wrong("res 0 1 ^aa;");
        wrong("weak 0 ^cd;");
        wrong("low ^ab;");
        wrong("top ^ab;");
        wrong("clause 3 ^ab;");
        Check.wrongClaim("or a ^a1;");
        Check.wrongClaim("or a^1;");
    }

    private static void digits() {
        Check.says("N, L 1 or 2 digits.");
        right("res 0 1 a;");
        right("res 00 01 a;");
        right("mul 3 1;");
        right("mul 03 01;");
        right("div 03 02;");
        wrong("res ^000 1 a;");
        wrong("res 0 ^001 a;");
        wrong("mul 3 ^001;");
        wrong("div 3 ^002;");
        wrong("weak ^000 c;");
        wrong("plane ^000;");
        wrong("clause ^003 b;");
        Check.rightClaim(1, "sum 01 a least 01;");
        Check.wrongClaim("sum ^001 a least 1;");
        Check.wrongClaim("sum a least ^001;");
        Check.wrongClaim("sum a least ^12345678901234567890;");
        wrong("res ^4294967296 1 a;");
        // Two numbers need a blank between them.
        wrong("res 01 ^a;");
    }

    private static void wordsAtTheirFirstByte() {
        Check.says("THE FAULT: the first byte with which no such text goes on "
            + "(a word, a number at its first byte: one too long, out of bounds, cut off;");
        Check.wrongClaim("^orrr");
        Check.wrongClaim(" ^x a;");
        Check.wrongClaim("or a; ^res 0 1 a;");
        Check.wrongClaim("or ^gg;");
        Check.wrongClaim("or ^g;");
        Check.wrongClaim("sum a ^leas 1;");
        Check.wrongClaim("sum a ^leastt 1;");
        Check.wrongClaim("source a;step b ^fromm a;");
        wrong("^resx 0 1 a;");
        wrong("low a;^or a;");
        wrong("res 0 1 ^g;");
        wrong("low ^gh;");
    }

    private static void numbersAtTheirFirstByte() {
        Check.wrongClaim("sum ^100 a least 1;");
        Check.wrongClaim("sum ^0 a least 1;");
        Check.wrongClaim("sum a least ^100;");
        wrong("mul 3 ^10;");
        wrong("div 3 ^1;");
        wrong("res ^100 1 a;");
        // A number where a word must stand, and the other way round.
        Check.wrongClaim("^12;");
        Check.wrongClaim("or ^12;");
        Check.wrongClaim("sum a least ^a;");
        wrong("^0;");
        wrong("res ^a 1 a;");
        wrong("mul 3 ^two;");
    }

    private static void cutOff() {
        for (String word : new String[] {"o", "su", "sourc", "ste", "sin"}) {
            Check.wrongClaim("^" + word);
            Check.wrongClaim("or a; ^" + word);
            Check.wrongClaim("^" + word + " ");
        }
        Check.wrongClaim("sum a ^l");
        Check.wrongClaim("sum a ^leas");
        Check.wrongClaim("source a;step b ^fro");
        for (String word : new String[] {"r", "re", "wea", "lo", "to", "plan", "ad", "mu", "di", "claus"}) {
            wrong("^" + word);
            wrong("low a;\n^" + word);
        }
        Check.wrongClaim("sum ^0");
        wrong("mul 3 ^0");
        wrong("div 3 ^0");
        wrong("div 3 ^1");
    }

    private static void toldAlready() {
        Check.says("a V told already where it may not be, or not told where it must;");
        Check.wrongClaim("or a ^a");
        Check.wrongClaim("or - a - ^a;");
        Check.wrongClaim("sum a 3 ^a");
        Check.wrongClaim("source a;source ^a");
        Check.wrongClaim("source a;step ^a from");
        Check.wrongClaim("source a;step b from a ^a");
        wrong("clause 3 b ^b");
        wrong("weak 0 c ^c");
        // With no VARIABLE left a - or an N still goes by: the V behind it is the fault.
        Check.wrongClaim("or a b c d e f - ^a;");
        Check.wrongClaim("sum a b c d e f 9 ^a least 1;");
    }

    private static void notTold() {
        Check.wrongClaim("step b from ^a");
        Check.wrongClaim("source a;step b from ^b");
        Check.wrongClaim("source a;step b from a ^c");
        Check.wrongClaim("sink ^a");
        Check.wrongClaim("source a;sink ^b");
    }

    private static void tooMany() {
        Check.says("a LINE too many, a second sink at its first word;");
        String sixteen = "or a;".repeat(16);
        Check.wrongClaim(sixteen + "^or a;");
        Check.wrongClaim(sixteen + "\t^or");
        Check.wrongClaim(sixteen + " ^or a a;");
        String forty = "low a;".repeat(40);
        wrong(forty + "^low a;");
        wrong(forty + "\n\n^low");
        wrong(forty + " ^low g;");
    }

    private static void secondSink() {
        Check.wrongClaim("source a;sink a;^sink a;");
        Check.wrongClaim("source a;sink a;\n^sink");
        Check.wrongClaim("source a;source b;sink a; ^sink b;");
        Check.wrongClaim("source a;sink a; ^sink g;");
    }

    private static void linesThatAreNone() {
        Check.says("an L that is none ahead, or is a PLANE where a CLAUSE must be, or the other way round;");
        for (String none : new String[] {"4", "04", "9", "99"}) {
            wrong("res ^" + none + " 1 a;");
            wrong("res 0 ^" + none + " a;");
            wrong("weak ^" + none + " c;");
            wrong("plane ^" + none + ";");
            wrong("add ^" + none + " 3;");
            wrong("add 3 ^" + none + ";");
            wrong("mul ^" + none + " 2;");
            wrong("div ^" + none + " 2;");
            wrong("clause ^" + none + " b;");
        }
    }

    private static void wrongKindOfLine() {
        wrong("res ^3 1 a;");
        wrong("res 0 ^3 a;");
        wrong("weak ^3 c;");
        wrong("plane ^3;");
        wrong("add ^0 3;");
        wrong("add 3 ^0;");
        wrong("mul ^0 2;");
        wrong("div ^0 2;");
        wrong("clause ^0 a b;");
        wrong("low a;res 0 ^4 a;");
        wrong("res 0 1 a;mul ^4 2;");
        wrong("clause 3 b;add 3 ^4;");
        wrong("plane 0;weak ^4 c;");
    }

    private static void whatCannotBe() {
        Check.says("where all L are right, what cannot be: of res at the V, of weak at the V that is there already, "
            + "of add at the second L, of mul, div at the N;");
        wrong("res 1 0 ^a;");
        // Both have V, both have - V, one has it not at all, or both leave a VARIABLE both ways.
        wrong("res 0 0 ^a;");
        wrong("res 1 1 ^a;");
        wrong("weak 0 c;res 0 4 ^a;");
        wrong("weak 1 c;res 1 4 ^a;");
        wrong("weak 1 c;res 4 1 ^a;");
        wrong("weak 1 c;res 4 0 ^c;");
        wrong("weak 1 - c;res 0 4 ^c;");
        wrong("res 0 2 ^a");
        wrong("res 0 1 ^c x");
        wrong("weak 0 ^a;");
        wrong("weak 0 - ^a");
        wrong("weak 0 c - ^b x");
        String great = "sum 99 a least 0;";
        Check.wrongProof(great, "mul 0 9;add 1 ^1;");
        Check.wrongProof(great, "mul 0 9;add 1 ^1");
        Check.wrongProof(great, "mul 0 9;add 01 ^01 x");
        Check.wrongProof(great, "mul 0 9;mul 1 ^2;");
        Check.wrongProof(great, "mul 0 9;mul 1 ^02");
        Check.wrongProof(great, "div 0 ^2;");
        Check.wrongProof(great, "div 0 ^2");
        Check.wrongProof(great, "div 0 ^02 x");
    }

    private static void theFirstIsTold() {
        // The second L is wrong as well as the V, or the N.
        wrong("res ^3 3 c;");
        wrong("res 0 ^3 c;");
        wrong("add ^0 0;");
        wrong("mul ^0 0;");
        wrong("div ^0 1;");
        wrong("weak ^3 a a;");
        wrong("clause ^0 a a;");
        wrong("low ^g;low h;");
        Check.wrongClaim("or ^g;or h;");
    }

    private static void clausesThatDoNotFollow() {
        Check.says("of a clause that does not follow at that word, asked where its ; stands);");
        wrong("^clause 3;");
        wrong("^clause 3 a;");
        wrong(" ^clause 3 - b ;");
        wrong("low a;\n^clause 4 a;low g;");
        // Where no ; stands it is not asked.
        wrong("clause 3^");
        wrong("clause 3 a^");
        wrong("clause 3 a ^");
        wrong("clause 3 a -^");
        wrong("clause 3 a^,");
        wrong("clause 3 a ^1;");
        wrong("clause 3 a ^a;");
        wrong("clause 3 a ^g;");
        wrong("clause 3 ^low a;");
    }

    private static void moreMustCome() {
        Check.says("the text's length, if more must come.");
        for (String cut : new String[] {"or", "or a", "or -", "or a -", "sum", "sum -", "sum 2", "sum - 2", "sum a", "sum a b",
            "sum a least", "sum a least -", "sum a least 1", "source", "source a", "step", "step a", "step a from",
            "source a;step b from a", "source a;sink", "source a;sink a"}) {
            Check.wrongClaim(cut + "^");
            Check.wrongClaim(cut + " \t\n^");
        }
        for (String cut : new String[] {"res", "res 0", "res 0 1", "res 0 1 a", "weak", "weak 0", "weak 0 c", "weak 0 -", "low",
            "low a", "top", "top a", "plane", "plane 0", "add", "add 3", "add 3 3", "mul", "mul 3", "mul 3 2", "div", "div 3",
            "div 3 2", "clause", "clause 3", "clause 3 b", "clause 3 -"}) {
            wrong(cut + "^");
            wrong(cut + "\n \t^");
        }
        Check.wrongClaim(" ".repeat(398) + "or^");
        wrong(" ".repeat(394) + "plane ^");
    }
}
