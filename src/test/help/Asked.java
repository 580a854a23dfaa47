import java.util.function.Supplier;

/** What the tests by sentences share: a sentence of the document, the answers that are due by it, texts. */
abstract class Asked {
  static final int LOW = Integer.MIN_VALUE, HIGH = Integer.MAX_VALUE;
  static final int BAD = -1, STATE = -2, FULL = -3, NONE = -4;
  /** Far outside of every bound; the last would be inside if only their lowest bits were looked at. */
  static final int[] FAR_OUT = {LOW, LOW + 1, -100, 1000, HIGH - 1, HIGH, 256 + 3, 65536 + 3, -256 + 3, -65536 + 3};

  static final String SMALL = "corner 2 2;corner 4 2;corner 4 4;corner 2 4;";
  static final String LARGE = "corner 0 0;corner 12 0;corner 12 12;corner 0 12;";
  /** Sides 4, 3, 5. */
  static final String THREE = "corner 0 0;corner 4 0;corner 4 3;middle 3 1;";
  static final String EIGHT = "corner 4 0;corner 8 0;corner 12 3;corner 12 8;corner 8 11;corner 4 11;corner 0 8;corner 0 3;middle 6 5;";

  private static int sentences = 0, asked = 0, wrong = 0;
  private static String words = "";

  static void sentence(String ofDocument) {
    sentences++;
    words = ofDocument;
  }

  static void due(String call, long got, long want) {
    asked++;
    if (got == want) return;
    wrong++;
    System.out.println("'" + words + "': " + call + " answered " + got + ", due is " + want);
  }

  static void fraction(String call, long n, long d, long wantN, long wantD) {
    due(call + " numerator", n, wantN);
    due(call + " denominator", d, wantD);
  }

  static void tellAll() {
    System.out.println(sentences + " sentences, " + asked + " answers asked, " + wrong + " not as due");
    if (wrong != 0) System.exit(1);
  }

  /** Behind what THE TAPE has. */
  static void write(CrustCrumb x, String text) {
    for (int i = 0; i < text.length(); i += 8) {
      long v = 0;
      for (int k = 0; k < 8; k++) v = v << 8 | (i + k < text.length() ? text.charAt(i + k) & 255 : 33);
      x.feed(v);
    }
    x.end(x.count(3) - (8 - text.length() % 8) % 8);
  }

  static CrustCrumb cake(String text) {
    CrustCrumb x = new CrustCrumb();
    write(x, text);
    int answer = x.text();
    if (answer < 0) due("text() of " + text, answer, 0);
    return x;
  }

  static void taken(String text, int lines) {
    CrustCrumb x = new CrustCrumb();
    write(x, text);
    due("text() of '" + text + "'", x.text(), lines);
    due("fault() of '" + text + "'", x.fault(), 0);
  }

  static void refused(String text, int fault, int place) {
    CrustCrumb x = new CrustCrumb();
    write(x, text);
    due("text() of '" + text + "'", x.text(), -10 - place);
    due("fault() of '" + text + "'", x.fault(), fault);
  }

  /** On a new object each: BAD outside of the bounds, another answer within. */
  static void only(String call, int least, int greatest, Supplier<CrustCrumb> make, Call what) {
    for (int v = least - 3; v <= greatest + 3; v++) {
      boolean bad = what.on(make.get(), v) == BAD;
      due(call + " with " + v + ": is it BAD", bad ? 1 : 0, v < least || v > greatest ? 1 : 0);
    }
    for (int v : FAR_OUT) {
      if (v < least || v > greatest) due(call + " with " + v, what.on(make.get(), v), BAD);
    }
  }

  interface Call {
    long on(CrustCrumb x, int v);
  }

  /** Where the last MARK is, asked of mark() itself, which leaves them as they were; there must be one. */
  static int lastMark(CrustCrumb x, int rim) {
    int marks = x.count(0), least = 0, most = rim - 1;
    while (least < most) {
      int between = (least + most + 1) / 2;
      if (x.mark(between) == BAD) {
        least = between;
      } else {
        most = between - 1;
        x.wipe(marks);
      }
    }
    return least;
  }
}
