/** Promises 18 and 19, RELATIONS: a test of its own for each sentence that names an edge. */
public final class MarkupEdgesTest {
    private static final String ELEMENT = "<rel id='x' to='a'/>";
    private static final String OPEN = "<rels><rel id='";
    private static final String LONGEST = "abcdefghijklmnopqrstuvwx";

    public static void main(String[] args) {
        theSizeWhereItEndsTooEarly();
        theFirstByteThatCantBeSo();
        whatStandsBehindTheMarkup();
        theLastOf12000Bytes();
        gapsAreFourBytes();
        gapsStandBetween();
        spaceIsFourBytes();
        noSpaceWithinATag();
        commentsOfAnyBytes();
        commentsThatBeginOtherwise();
        commentsWithTwo45();
        commentsThatDoNotEnd();
        commentsOnlyInGaps();
        theOutermostElement();
        itsEnd();
        onlyGapsBehindIt();
        noElements();
        elementsOfBothForms();
        elementsThatAreNone();
        onlyGapsInAnElement();
        notBothAttributes();
        attributesNeedSpace();
        attributesInAnyOrder();
        attributesNames();
        attributesThatAreThereAlready();
        theEqualsAndTheQuote();
        theSameByteAgain();
        bytesOfAValue();
        namedBytes();
        namesThatAreNone();
        namedBytesNeedTheirEnd();
        numberedBytes();
        numbersThatAreNone();
        numbersNeedTheirEnd();
        anIdOf1To8Bytes();
        aToIsAName();
        whoTellsTheRelations();
        longestNameThatCanHaveRelations();
        relationsOfAnyPart();
        relationsOfNoPart();
        relationsOfAFault();
        relationGoesToAPart();
        relationThatIsNotThere();
        mostRelations();
        Kit.end();
    }

    private static Run told(byte[] markup) {
        return new Run().with("a", "").with("root", "").with("root.rels", markup);
    }

    private static void right(byte[] markup, int relations) {
        String what = new String(markup, java.nio.charset.StandardCharsets.ISO_8859_1);
        Run run = told(markup);
        Kit.due(what, run.relations(1), relations);
        int faults = run.check();
        Kit.due(what + ": no fault of the markup", faults > 0 && run.fault(0, 0) == 1, false);
    }

    private static void right(String markup, int relations) {
        right(Kit.bytes(markup), relations);
    }

    private static void fault(byte[] markup, int place) {
        String what = new String(markup, java.nio.charset.StandardCharsets.ISO_8859_1);
        Run run = told(markup);
        Kit.due(what, run.relations(1), -1);
        Kit.dueThrow(what + ": no relation", Kit.INDEX, () -> run.relation(1, 0));
        // The markup, and a part that can't be reached then.
        Kit.due(what + ": faults", run.checked(), "1.1." + place + " 4.0.0");
        Kit.due("a right one instead of it", run.with("root.rels", "<rels>" + ELEMENT + "</rels>").relations(1), 1);
    }

    private static void fault(String markup, int place) {
        fault(Kit.bytes(markup), place);
    }

    /** The fault is the first byte behind so much. */
    private static void faultBehind(String before, String behind) {
        fault(before + behind, before.length());
    }

    private static void rightId(String value) {
        right(OPEN + value + "' to='a'/></rels>", 1);
    }

    // "the first byte that can't be so is its FAULT (the size, where it ends too early)"
    private static void theSizeWhereItEndsTooEarly() {
        String whole = "<!--c--> <rels ><rel id='i' to='t'/><rel to=\"t\" id=\"&#65;i\" ><!--c--></rel ></rels >";
        right(whole, 2);
        for (int n = 0; n < whole.length(); n++) {
            String begun = whole.substring(0, n);
            // An attribute's name and a number's digits have their fault at their begin.
            boolean isInName = begun.endsWith(" i") || begun.endsWith(" t");
            fault(begun, isInName || begun.endsWith("#6") ? n - 1 : n);
        }
        right(whole + " ", 2);
        fault(whole + " <", whole.length() + 2);
    }

    // What would be right if that byte were not there, and what is wrong behind it, does not count.
    private static void theFirstByteThatCantBeSo() {
        String whole = "<rels>" + ELEMENT + "</rels>";
        faultBehind("<!", whole);
        faultBehind("<!-", whole);
        faultBehind("<!--x--", whole);
        faultBehind("<!", "<rels>x");
        faultBehind("<rels><!", "</rels>");
        faultBehind("<rels><!", ELEMENT + "</rels>");
        faultBehind("<rels><!-", "</rels>x");
        faultBehind("<rels>" + ELEMENT + "<!--x--", "</rels>");
        faultBehind("<rels><rel id='x' to='a'><!", "</rel></rels>");
        faultBehind(whole + "<!", "");
        faultBehind(whole + "<!", "<!--x-->");
        faultBehind("", "x" + whole + "x");
        faultBehind("<rels>", "x" + ELEMENT + "x</rels>");
        faultBehind("<rels><rel ", "x='' id='' to=''/></rels>");
        faultBehind("<rels><rel id='", "' to=''/></rels>");
    }

    /** Of the markup's begin the place is due, though the next part goes on as it could go on. */
    private static void dueCut(String begun, String next, int place) {
        Run run = new Run().with("a", "").with("root", "").with("root.rels", begun).with("root.relsx", next);
        Kit.due(begun + " and " + next, run.relations(1), -1);
        Kit.due(begun + " and " + next, run.checked(), "1.1." + place + " 4.0.0 4.3.0");
    }

    private static void whatStandsBehindTheMarkup() {
        String whole = "<!--c--><rels ><rel id='&lt;&#65;' to='a'> </rel ><rel to='a' id='y' /></rels >";
        right(whole, 2);
        for (int n = 0; n < whole.length(); n++) {
            int place = n;
            for (String word : new String[] {"i", "t", "l"}) {
                place = whole.substring(0, n).endsWith(" " + word) || whole.substring(0, n).endsWith("&" + word) ? n - 1 : place;
            }
            dueCut(whole.substring(0, n), whole.substring(n), whole.substring(0, n).endsWith("#6") ? n - 1 : place);
        }
        dueCut("<rels/><", "!--x-->", 8);
        dueCut("<rels/><!--x-", "->", 13);
        // Behind a right markup other parts' bytes are no fault.
        Run run = new Run().with("a", "").with("root", "").with("root.rels", "<rels/>").with("root.relsx", "x");
        Kit.due("right", run.relations(1), 0);
    }

    // "12000 in all": no byte is behind the last one
    private static void theLastOf12000Bytes() {
        byte[] most = Kit.filled("ab", 4000);
        String[] ends = {
            "<", "<!", "<!-", "<!--", "<!--x-", "<rels", "<rels/", "<rels/><", "<rels><rel i", "<rels><rel id='&am", "<rels><rel id='&#6",
            "<rels><rel id='&", "<rels><rel id=", "<rels><", "<rels><rel id='x' to='a'/", "<rels><rel id='x' to='a'><"
        };
        for (String end : ends) {
            Run run = new Run().with("a", most).with("b", most).with("root", "");
            run.add("root.rels", Kit.join(Kit.filled(" ", 4000 - end.length()), Kit.bytes(end)));
            Kit.due("12000", run.about(3, 0), 12000);
            Kit.due("ends with " + end, run.relations(2), -1);
            Kit.due("a fault of the markup", run.check() > 0 && run.fault(0, 0) == 1, true);
            boolean isWord = end.endsWith("i") || end.endsWith("am") || end.endsWith("6");
            Kit.due("its place", run.fault(0, 2), end.endsWith("am") ? 3998 : isWord ? 3999 : 4000);
        }
        Run run = new Run().with("a", most).with("b", most).with("root", "");
        run.add("root.rels", Kit.join(Kit.filled(" ", 3993), Kit.bytes("<rels/>")));
        Kit.due("a right one", run.relations(2), 0);
    }

    // "GAPS are bytes 32, 9, 10, 13 and COMMENTS"
    private static void gapsAreFourBytes() {
        String[] before = {"", "<rels>", "<rels>" + ELEMENT, "<rels><rel id='x' to='a'>", "<rels/>", "<rels></rels>"};
        String[] behind = {"<rels/>", "</rels>", "</rels>", "</rel></rels>", "", ""};
        int[] relations = {0, 0, 1, 1, 0, 0};
        for (int place = 0; place < before.length; place++) {
            for (int b = 0; b < 256; b++) {
                String whole = before[place] + (char) b + behind[place];
                if (b == 32 || b == 9 || b == 10 || b == 13) {
                    right(whole, relations[place]);
                } else if (b != '<') {
                    faultBehind(before[place], (char) b + behind[place]);
                }
            }
        }
    }

    // "as many as there are, mixed"
    private static void gapsStandBetween() {
        String gaps = " \t\r\n<!--1--><!--2--> <!--3-->\n\n";
        right(gaps + "<rels>" + gaps + ELEMENT + gaps + "<rel id='y' to='a'>" + gaps + "</rel>" + gaps + "</rels>" + gaps, 2);
        right("<rels>" + ELEMENT + ELEMENT + "</rels>", 2);
    }

    // "perhaps bytes of 32, 9, 10, 13 (SPACE)"
    private static void spaceIsFourBytes() {
        String[] before = {"<rels", "<rels", "<rels></rels", "<rels><rel id='x' to='a'", "<rels><rel id='x' to='a'",
            "<rels><rel id='x' to='a'></rel"};
        String[] behind = {"/>", "></rels>", ">", "/></rels>", "></rel></rels>", "></rels>"};
        int[] relations = {0, 0, 0, 1, 1, 1};
        for (int place = 0; place < before.length; place++) {
            right(before[place] + behind[place], relations[place]);
            right(before[place] + " \t\r\n \n" + behind[place], relations[place]);
            for (int b = 0; b < 256; b++) {
                String whole = before[place] + (char) b + behind[place];
                if (b == 32 || b == 9 || b == 10 || b == 13) {
                    right(whole, relations[place]);
                } else if (b != '/' && b != '>') {
                    faultBehind(before[place], (char) b + behind[place]);
                }
            }
        }
    }

    private static void noSpaceWithinATag() {
        faultBehind("<", " rels/>");
        faultBehind("<re", " ls/>");
        faultBehind("<rels/", " >");
        faultBehind("<rels><", " /rels>");
        faultBehind("<rels></", " rels>");
        faultBehind("<rels></re", " ls>");
        faultBehind("<rels><", " rel id='x' to='a'/></rels>");
        faultBehind("<rels><rel id='x' to='a'/", " ></rels>");
        faultBehind("<rels><rel id='x' to='a'></", " rel></rels>");
        faultBehind("<rels><rel id='x' to='a'><", " /rel></rels>");
    }

    // "COMMENTS (<!--, any bytes without two 45 one behind the other, -->)"
    private static void commentsOfAnyBytes() {
        right("<!----><rels/>", 0);
        byte[] all = new byte[256];
        for (int k = 0; k < 256; k++) {
            all[k] = (byte) k;
        }
        right(Kit.join(Kit.bytes("<!--"), all, Kit.bytes("--><rels/>")), 0);
        right("<!-- - -> <!- <!-x ->x- - > --><rels/>", 0);
        right("<!--><--><rels/>", 0);
        right("<!--->--><rels/>", 0);
        right("<!--<rels>--><rels/>", 0);
        right("<rels/><!--a--><!--b-->", 0);
    }

    private static void commentsThatBeginOtherwise() {
        String[] places = {"", "<rels>", "<rels><rel id='x' to='a'>", "<rels/>", "<rels></rels>"};
        for (String before : places) {
            faultBehind(before + "<!", "x--></rels>");
            faultBehind(before + "<!", "");
            faultBehind(before + "<!-", "x--></rels>");
            faultBehind(before + "<!-", "");
            faultBehind(before + "<!-", ">");
            faultBehind(before + "<", "--x-->");
        }
    }

    private static void commentsWithTwo45() {
        faultBehind("<!--a--", "b--><rels/>");
        faultBehind("<!--a--", " ><rels/>");
        faultBehind("<!----", "a--><rels/>");
        faultBehind("<!--a-b--", "c--><rels/>");
        right("<!--a-b-c--><rels/>", 0);
        right("<!---a--><rels/>", 0);
        faultBehind("<rels><!-- --", "x--></rels>");
        faultBehind("<rels/><!-- --", "x-->");
    }

    private static void commentsThatDoNotEnd() {
        String[] places = {"", "<rels>", "<rels><rel id='x' to='a'>", "<rels/>", "<rels></rels>"};
        for (String before : places) {
            for (String comment : new String[] {"<!--", "<!-->", "<!--->", "<!--a", "<!--a-", "<!--a--", "<!--a->", "<!--a- ->"}) {
                fault(before + comment, before.length() + comment.length());
            }
        }
    }

    private static void commentsOnlyInGaps() {
        faultBehind("<rels", "<!--x-->/>");
        faultBehind("<rels ", "<!--x-->/>");
        faultBehind("<rels><rel ", "<!--x-->id='x' to='a'/></rels>");
        faultBehind("<rels><rel id='x' to='a'", "<!--x-->/></rels>");
        faultBehind("<rels></rels", "<!--x-->>");
        faultBehind("<rels><rel id='", "<!--x-->' to='a'/></rels>");
    }

    // "A markup: gaps; < and rels; perhaps .. space; /> or: >, .."
    private static void theOutermostElement() {
        fault("", 0);
        fault("   ", 3);
        right("<rels/>", 0);
        right("<rels></rels>", 0);
        for (int n = 1; n < 5; n++) {
            String begun = "<rels".substring(0, n);
            faultBehind(begun, "x/>");
            faultBehind(begun, "/>");
            faultBehind(begun, "");
            faultBehind(begun, "<rels".substring(n, n + 1).toUpperCase() + "/>");
        }
        faultBehind("<rels", "x/>");
        faultBehind("<rels ", "id='x'/>");
        faultBehind("<rels/", "/>");
        faultBehind("<rels/", "");
        faultBehind("", "x<rels/>");
        faultBehind("", "rels/>");
    }

    // "</ and rels, perhaps space, >"
    private static void itsEnd() {
        for (int n = 1; n < 6; n++) {
            faultBehind("<rels>" + "</rels".substring(0, n), n == 1 ? "x" : "X>");
            faultBehind("<rels>" + "</rels".substring(0, n), "");
        }
        faultBehind("<rels></rel", ">");
        faultBehind("<rels></rels", "");
        faultBehind("<rels></rels", "/>");
        faultBehind("<rels></rels", "x>");
        faultBehind("<rels></rels ", "x>");
        faultBehind("<rels>" + ELEMENT, "");
    }

    // "gaps; its end"
    private static void onlyGapsBehindIt() {
        for (String whole : new String[] {"<rels/>", "<rels></rels>", "<rels>" + ELEMENT + "</rels>"}) {
            faultBehind(whole, "x");
            faultBehind(whole + " ", "x");
            faultBehind(whole, ">");
            // This might be a comment still.
            faultBehind(whole + "<", "");
            faultBehind(whole + "<", "/rels>");
            faultBehind(whole + "<", "rels/>");
            faultBehind(whole + "<!--x--><", "rels/>");
        }
    }

    private static void noElements() {
        right("<rels> <!--" + ELEMENT + "--> </rels>", 0);
        faultBehind("<rels><", "></rels>");
        faultBehind("<rels>", "rel</rels>");
        faultBehind("<rels>", ELEMENT.substring(1) + "</rels>");
    }

    // "An element: < and rel; attributes; perhaps space; /> or: >, gaps, </ and rel, perhaps space, >"
    private static void elementsOfBothForms() {
        right("<rels><rel id='x' to='a'/></rels>", 1);
        right("<rels><rel id='x' to='a'></rel></rels>", 1);
        right("<rels><rel id='x' to='a'/><rel id='y' to='a'></rel><rel id='z' to='a'/></rels>", 3);
        faultBehind("<rels><rel id='x' to='a'", "");
        faultBehind("<rels><rel id='x' to='a'/", "");
        faultBehind("<rels><rel id='x' to='a'/", "/>");
        faultBehind("<rels><rel id='x' to='a'>", "");
        faultBehind("<rels><rel id='x' to='a'>", ">");
        for (int n = 1; n < 5; n++) {
            faultBehind("<rels><rel id='x' to='a'>" + "</rel".substring(0, n), "X></rels>");
            faultBehind("<rels><rel id='x' to='a'>" + "</rel".substring(0, n), "");
        }
        faultBehind("<rels><rel id='x' to='a'></rel", "s></rels>");
        faultBehind("<rels><rel id='x' to='a'></rel", "/></rels>");
        faultBehind("<rels><rel id='x' to='a'></rel ", "x></rels>");
    }

    private static void elementsThatAreNone() {
        faultBehind("<rels><", "x id='x' to='a'/></rels>");
        faultBehind("<rels><", "Rel id='x' to='a'/></rels>");
        faultBehind("<rels><r", "l id='x' to='a'/></rels>");
        faultBehind("<rels><re", " id='x' to='a'/></rels>");
        faultBehind("<rels><rel", "s></rels></rels>");
        faultBehind("<rels><rel", "x id='x' to='a'/></rels>");
        faultBehind("<rels><rel", "");
    }

    private static void onlyGapsInAnElement() {
        faultBehind("<rels><rel id='x' to='a'>", "x</rel></rels>");
        faultBehind("<rels><rel id='x' to='a'> ", "x</rel></rels>");
        faultBehind("<rels><rel id='x' to='a'><", "rel id='y' to='a'/></rel></rels>");
        faultBehind("<rels><rel id='x' to='a'></rel", "s>");
        right("<rels><rel id='x' to='a'> <!--x--> </rel></rels>", 1);
    }

    // "Behind the attributes, if not both are there, a / or > is the fault."
    private static void notBothAttributes() {
        for (String end : new String[] {"/></rels>", "></rel></rels>"}) {
            faultBehind("<rels><rel", end);
            faultBehind("<rels><rel ", end);
            faultBehind("<rels><rel id='x'", end);
            faultBehind("<rels><rel id='x'  ", end);
            faultBehind("<rels><rel to='a'", end);
            faultBehind("<rels><rel to='a'\n", end);
        }
        // Behind it all is there, but it comes too late.
        faultBehind("<rels><rel id='x'", "/ to='a'/></rels>");
        faultBehind("<rels>" + ELEMENT + "<rel", "/></rels>");
    }

    // "An attribute: space; .."
    private static void attributesNeedSpace() {
        faultBehind("<rels><rel", "id='x' to='a'/></rels>");
        faultBehind("<rels><rel id='x'", "to='a'/></rels>");
        faultBehind("<rels><rel to='a'", "id='x'/></rels>");
        faultBehind("<rels><rel id='x' to='a'", "x/></rels>");
        right("<rels><rel\tid='x'\nto='a'/></rels>", 1);
        right("<rels><rel \r\n id='x' \t to='a'/></rels>", 1);
    }

    private static void attributesInAnyOrder() {
        right("<rels><rel id='x' to='a'/></rels>", 1);
        right("<rels><rel to='a' id='x'/></rels>", 1);
        Run run = told(Kit.bytes("<rels><rel to='a' id='root'/><rel id='a' to='root'/></rels>"));
        Kit.due("to a", run.relation(1, 0), 0);
        Kit.due("to root", run.relation(1, 1), 1);
    }

    // "letters a .. z as far as they go (the fault at its begin, if it is not id or to, ..)"
    private static void attributesNames() {
        for (String name : new String[] {"i", "t", "d", "o", "ido", "toid", "idd", "too", "x", "ot", "di", "idz", "ida", "abcdefghijkl"}) {
            faultBehind("<rels><rel ", name + "='x' to='a'/></rels>");
            faultBehind("<rels><rel ", name);
            faultBehind("<rels><rel id='x' ", name + "='x' to='a'/></rels>");
            faultBehind("<rels><rel id='x' to='a' ", name + "='x'/></rels>");
        }
        // What is no letter does not belong to it: then the name is right, and = is missing.
        for (String other : new String[] {"I", "_", "1", "-", "`", "{", "@", "\u00e1", "\u0000", " ", ">", "/", "<", "'"}) {
            faultBehind("<rels><rel id", other + "='x' to='a'/></rels>");
            faultBehind("<rels><rel id='x' to", other + "='a'/></rels>");
        }
        for (String none : new String[] {"=", "'", "I", "1", "<", "&"}) {
            faultBehind("<rels><rel ", none + "d='x' to='a'/></rels>");
        }
        faultBehind("<rels><rel ", "");
        faultBehind("<rels><rel ", "ID='x' to='a'/></rels>");
        faultBehind("<rels><rel ", "iD='x' to='a'/></rels>");
    }

    // "or there already"
    private static void attributesThatAreThereAlready() {
        faultBehind("<rels><rel id='x' ", "id='y' to='a'/></rels>");
        faultBehind("<rels><rel to='a' ", "to='a' id='x'/></rels>");
        faultBehind("<rels><rel id='x' to='a' ", "id='x'/></rels>");
        faultBehind("<rels><rel id='x' to='a' ", "to='a'/></rels>");
        faultBehind("<rels><rel to='a' id='x' ", "to='a'/></rels>");
        // In another element they are not there yet.
        right("<rels><rel id='x' to='a'/><rel id='x' to='a'/></rels>", 2);
        faultBehind("<rels>" + ELEMENT + "<rel id='x'", "/></rels>");
        faultBehind("<rels>" + ELEMENT + "<rel to='a'", "/></rels>");
    }

    // "=; 34 or 39"
    private static void theEqualsAndTheQuote() {
        right("<rels><rel id=\"x\" to=\"a\"/></rels>", 1);
        right("<rels><rel id='x' to=\"a\"/></rels>", 1);
        faultBehind("<rels><rel id", " ='x' to='a'/></rels>");
        faultBehind("<rels><rel id", ":'x' to='a'/></rels>");
        faultBehind("<rels><rel id", "'x' to='a'/></rels>");
        faultBehind("<rels><rel id=", " 'x' to='a'/></rels>");
        faultBehind("<rels><rel id=", "='x' to='a'/></rels>");
        faultBehind("<rels><rel id=", "x to='a'/></rels>");
        faultBehind("<rels><rel id=", "`x` to='a'/></rels>");
        faultBehind("<rels><rel id=", "");
        faultBehind("<rels><rel id", "");
        for (int b = 0; b < 256; b++) {
            if (b != 34 && b != 39) {
                faultBehind("<rels><rel id=", (char) b + "x" + (char) b + " to='a'/></rels>");
            }
        }
    }

    // "its value; the same byte again"
    private static void theSameByteAgain() {
        right("<rels><rel id='\"' to='a'/></rels>", 1);
        right("<rels><rel id=\"'\" to='a'/></rels>", 1);
        right("<rels><rel id='\"\"\"' to='a'/></rels>", 1);
        // Not closed, the value goes on to the first byte that none can have.
        faultBehind("<rels><rel id='x\" to=\"a\"/>", "</rels>");
        faultBehind("<rels><rel id=\"x' to='a'/>", "</rels>");
        faultBehind("<rels><rel id='x", "");
        // Once more it is no value's byte.
        faultBehind("<rels><rel id='x'", "' to='a'/></rels>");
    }

    // "A value: bytes 32 .. 126 that are not < or that quote"
    private static void bytesOfAValue() {
        for (int b = 0; b < 256; b++) {
            for (String quote : new String[] {"'", "\""}) {
                String before = "<rels><rel to='a' id=" + quote + "x";
                String whole = before + (char) b + "y" + quote + "/></rels>";
                if (b >= 32 && b <= 126 && b != '<' && b != '&' && b != quote.charAt(0)) {
                    right(whole, 1);
                } else if (b == '&') {
                    // The y behind it is no name.
                    fault(whole, before.length() + 1);
                } else if (b == quote.charAt(0)) {
                    fault(whole, before.length() + 1);
                } else {
                    fault(whole, before.length());
                }
            }
        }
    }

    private static void dueSameIds(String one, String other, boolean want) {
        Run run = told(Kit.bytes("<rels><rel id=" + one + " to='a'/><rel id=" + other + " to='a'/></rels>"));
        Kit.due(one + " and " + other, run.checked(), want ? "2.1.1" : "");
    }

    // "(amp, lt, gt, quot, apos: & < > 34 39; ..)"
    private static void namedBytes() {
        String[] names = {"amp", "lt", "gt", "quot", "apos"};
        int[] bytes = {38, 60, 62, 34, 39};
        for (int k = 0; k < 5; k++) {
            rightId("&" + names[k] + ";");
            for (int n = 0; n < 5; n++) {
                dueSameIds("'x&" + names[k] + ";y'", "'x&#" + bytes[n] + ";y'", n == k);
            }
        }
        dueSameIds("'&gt;'", "'>'", true);
        dueSameIds("'&quot;'", "'\"'", true);
        dueSameIds("'&apos;'", "\"'\"", true);
        // What comes of it is no and of its own.
        dueSameIds("'&amp;lt;'", "'&lt;'", false);
        rightId("&amp;lt;&amp;x");
        right(OPEN + "&apos;&apos;' to='a'/></rels>", 1);
    }

    // "letters as far as they go (..; the fault at the first one's place otherwise)"
    private static void namesThatAreNone() {
        String[] wrong = {
            "a", "am", "ampx", "ampz", "ampa", "amplt", "l", "ltt", "g", "gtx", "quo", "quota", "apo", "aposs", "nbsp", "x"
        };
        for (String name : wrong) {
            faultBehind(OPEN + "&", name + ";' to='a'/></rels>");
            faultBehind(OPEN + "&", name + "' to='a'/></rels>");
            faultBehind(OPEN + "&", name);
        }
        for (String none : new String[] {";", "'", " amp;", "AMP;", "Amp;", "&amp;", "1;", "<", "\u00e1;"}) {
            faultBehind(OPEN + "&", none + "' to='a'/></rels>");
        }
        faultBehind(OPEN + "&", "");
        faultBehind(OPEN + "&", "aMp;' to='a'/></rels>");
    }

    // "and ;"
    private static void namedBytesNeedTheirEnd() {
        for (String name : new String[] {"amp", "lt", "gt", "quot", "apos"}) {
            for (String other : new String[] {"' to='a'/></rels>", " ;' to='a'/></rels>", "1;' to='a'/></rels>", "A;", "&", "#", ":", ""}) {
                faultBehind(OPEN + "&" + name, other);
            }
        }
    }

    // "&#, one to three digits (the fault at the first one's place, if it is a 0, or these are not 32 .. 126), and ;"
    private static void numberedBytes() {
        for (int b = 0; b <= 999; b++) {
            if (b >= 32 && b <= 126) {
                rightId("&#" + b + ";");
            } else {
                faultBehind(OPEN + "&#", b + ";' to='a'/></rels>");
            }
        }
        for (int b : new int[] {32, 33, 65, 99, 100, 126}) {
            dueSameIds("'x&#" + b + ";'", "'x" + (char) b + "'", true);
            dueSameIds("'x&#" + b + ";'", "'x" + (char) (b == 126 ? 125 : b + 2) + "'", false);
        }
        Run run = told(Kit.bytes("<rels><rel id='x' to='&#114;oo&#116;'/></rels>"));
        Kit.due("to root", run.relation(1, 0), 1);
    }

    private static void numbersThatAreNone() {
        for (String digits : new String[] {"0", "00", "000", "065", "032", "097", "01"}) {
            faultBehind(OPEN + "&#", digits + ";' to='a'/></rels>");
            faultBehind(OPEN + "&#", digits);
        }
        String[] wrong = {
            ";", "'", "x41;", " 65;", "-65;", "+65;", "a;", ":;", "/;", "#65;", "6/;", "6:;", "1/0;", "3/;", "9:;", "1:;"
        };
        for (String none : wrong) {
            faultBehind(OPEN + "&#", none + "' to='a'/></rels>");
        }
        faultBehind(OPEN + "&#", "");
    }

    private static void numbersNeedTheirEnd() {
        for (String digits : new String[] {"32", "65", "99", "100", "126"}) {
            for (String other : new String[] {"' to='a'/></rels>", " ;", "x;", ":;", "&", ""}) {
                faultBehind(OPEN + "&#" + digits, other);
            }
        }
        // A fourth digit is none of the three.
        faultBehind(OPEN + "&#126", "0;' to='a'/></rels>");
        faultBehind(OPEN + "&#100", "1;' to='a'/></rels>");
        faultBehind(OPEN + "&#", "3200;' to='a'/></rels>");
    }

    // "An id has 1 to 8 bytes ..: otherwise the closing quote is the fault."
    private static void anIdOf1To8Bytes() {
        faultBehind(OPEN, "' to='a'/></rels>");
        faultBehind("<rels><rel to='a' id=\"", "\"/></rels>");
        rightId("1");
        rightId("1234567");
        rightId("12345678");
        faultBehind(OPEN + "123456789", "' to='a'/></rels>");
        faultBehind(OPEN + "1".repeat(300), "' to='a'/></rels>");
        // A named byte is one.
        rightId("&amp;".repeat(8));
        rightId("&#126;".repeat(8));
        rightId("1234567&quot;");
        faultBehind(OPEN + "&amp;".repeat(9), "' to='a'/></rels>");
        faultBehind(OPEN + "12345678&lt;", "' to='a'/></rels>");
        rightId(" ");
        rightId("        ");
        // Not closed it is not looked at.
        faultBehind(OPEN + "123456789", "");
        faultBehind(OPEN + "123456789", "<");
    }

    // "a to is a NAME: otherwise the closing quote is the fault."
    private static void aToIsAName() {
        String before = "<rels><rel id='x' to='";
        String[] wrong = {
            "", "A", "/", "a/", "/a", "a//b", ".", "..", "a/.", "../a", LONGEST + "y", LONGEST.repeat(9), "a b", "a-b", "&amp;",
            "&#32;a", "a&#47;", "&#46;", "&#46;.", "a&gt;", "\""
        };
        for (String name : wrong) {
            faultBehind(before + name, "'/></rels>");
            faultBehind("<rels><rel to='" + name, "' id='x'/></rels>");
        }
        for (String name : new String[] {"a", "_", "...", "a/b", LONGEST, "&#97;", "a&#47;b", "&#46;a", "no.part", "&#97;".repeat(24)}) {
            right(before + name + "'/></rels>", 1);
        }
        faultBehind(before + "&#97;".repeat(25), "'/></rels>");
    }

    // "RELATIONS of a part are told by the part that has its name and .rels behind that, if there is one"
    private static void whoTellsTheRelations() {
        Run run = new Run().with("a", "").with("b", "").with("b.rel", "<").with("b.relsx", "<").with("b/.rels", "<").with("brels", "<")
            .with("x/b.rels", "<").with("b.rels.b", "<");
        Kit.due("none tells b's", run.relations(1), 0);
        Kit.dueThrow("none", Kit.INDEX, () -> run.relation(1, 0));
        run.add("b.rels", "<rels>" + ELEMENT + "</rels>");
        Kit.due("now it is told", run.relations(1), 1);
        Kit.due("a's is not", run.relations(0), 0);
        run.add("b.rels", "<rels/>");
        Kit.due("told anew", run.relations(1), 0);
        run.add("b.rels", "");
        Kit.due("no markup at all", run.relations(1), -1);
        run.remove("b.rels");
        Kit.due("not told any more", run.relations(1), 0);
    }

    // A name has 24 bytes at most, and so has the name of the part that tells.
    private static void longestNameThatCanHaveRelations() {
        String most = LONGEST.substring(0, 19);
        Run run = new Run().with(most, "").with(most + ".rels", "<rels>" + ELEMENT + "</rels>");
        Kit.due("19 bytes", run.relations(0), 1);
        Run more = new Run().with(most + "t", "");
        Kit.dueThrow("25 bytes", Kit.ARGUMENT, () -> more.add(most + "t.rels", "<rels/>"));
        Kit.due("20 bytes", more.relations(0), 0);
        Run longest = new Run().with(LONGEST, "").with(most + ".rels", "<");
        Kit.due("24 bytes", longest.relations(0), 0);
    }

    // "the i-th part (any one; 0 if no part tells them)"
    private static void relationsOfAnyPart() {
        Run run = new Run().with("a", "").with("a.rels", "<rels>" + ELEMENT + "</rels>")
            .with("a.rels.rels", "<rels>" + ELEMENT + "<rel id='y' to='a.rels'/></rels>");
        Kit.due("a", run.relations(0), 1);
        Kit.due("relations' own", run.relations(1), 2);
        Kit.due("these have none", run.relations(2), 0);
        Kit.due("to a", run.relation(1, 0), 0);
        Kit.due("to a.rels", run.relation(1, 1), 1);
    }

    // "IndexOutOfBoundsException."
    private static void relationsOfNoPart() {
        Run run = new Run().with("a", "").with("a.rels", "<rels>" + ELEMENT + "</rels>");
        for (int i : new int[] {-1, 2, 3, 16, Integer.MIN_VALUE, Integer.MAX_VALUE}) {
            Kit.dueThrow("relations(" + i + ")", Kit.INDEX, () -> run.relations(i));
            Kit.dueThrow("relation(" + i + ", 0)", Kit.INDEX, () -> run.relation(i, 0));
        }
        run.remove("a.rels");
        Kit.due("the last one", run.relations(0), 0);
        Kit.dueThrow("no second one any more", Kit.INDEX, () -> run.relations(1));
    }

    // "(-1 if their markup has a fault)"
    private static void relationsOfAFault() {
        Run run = told(Kit.bytes("<rels>" + ELEMENT + ELEMENT + "</rels>x"));
        Kit.due("a fault at the very end", run.relations(1), -1);
        for (int k : new int[] {-1, 0, 1, 2}) {
            Kit.dueThrow("relation " + k, Kit.INDEX, () -> run.relation(1, k));
        }
        Kit.due("others have none", run.relations(0), 0);
        run.add("root.rels", "<rels>" + ELEMENT + "</rels>");
        Kit.due("without it", run.relations(1), 1);
    }

    // "To which part the k-th relation of the i-th part goes; -1 if that is none."
    private static void relationGoesToAPart() {
        Run run = new Run().with("b", "").with("b.rels",
            "<rels><rel id='1' to='b'/><rel id='2' to='b.rels'/><rel id='3' to='a'/><rel id='4' to='c'/><rel id='5' to='b.'/></rels>");
        int[] alone = {0, 1, -1, -1, -1};
        for (int k = 0; k < 5; k++) {
            Kit.due("relation " + k, run.relation(0, k), alone[k]);
        }
        run.add("a", "");
        run.add("c", "");
        int[] three = {1, 2, 0, 3, -1};
        for (int k = 0; k < 5; k++) {
            Kit.due("relation " + k + " with a and c", run.relation(1, k), three[k]);
        }
        run.remove("a");
        Kit.due("gone again", run.relation(0, 2), -1);
    }

    // "IndexOutOfBoundsException when there is no such part or relation."
    private static void relationThatIsNotThere() {
        Run run = told(Kit.bytes("<rels>" + ELEMENT + "<rel id='y' to='none'/></rels>"));
        Kit.due("the first one", run.relation(1, 0), 0);
        Kit.due("the last one", run.relation(1, 1), -1);
        for (int k : new int[] {-1, 2, 3, 199, 200, 201, Integer.MIN_VALUE, Integer.MAX_VALUE}) {
            Kit.dueThrow("relation " + k, Kit.INDEX, () -> run.relation(1, k));
        }
        Kit.dueThrow("of a part without any", Kit.INDEX, () -> run.relation(0, 0));
        Kit.dueThrow("of relations without any", Kit.INDEX, () -> run.relation(2, 0));
        Run none = told(Kit.bytes("<rels/>"));
        Kit.dueThrow("of none told", Kit.INDEX, () -> none.relation(1, 0));
    }

    // "at most 4000 bytes": so many relations of 20 bytes can be told
    private static void mostRelations() {
        byte[] elements = Kit.filled(ELEMENT, 199 * 20);
        Run run = told(Kit.join(Kit.bytes("<rels>"), elements, Kit.bytes("</rels>")));
        Kit.due("199", run.relations(1), 199);
        Kit.due("the last one", run.relation(1, 198), 0);
        Kit.dueThrow("no more", Kit.INDEX, () -> run.relation(1, 199));
        byte[] spaces = Kit.filled(" ", 4000 - 7);
        right(Kit.join(spaces, Kit.bytes("<rels/>")), 0);
        fault(Kit.join(Kit.filled(" ", 4000)), 4000);
        fault(Kit.join(Kit.filled(" ", 3999), Kit.bytes("<")), 4000);
        fault(Kit.join(spaces, Kit.bytes("<rels>x")), 3999);
    }
}
