/** Promises 21 to 23 and 25: marks and the trace, images kept and gone back to. */
public final class KindsImagesTest {
  private static final int BAD = SilverFleets.BAD;
  private static final int STATE = SilverFleets.STATE;
  private static final int NO = SilverFleets.NO;

  public static void main(String[] args) {
    marks();
    traces();
    marksRefused();
    images();
    imagesKeepWhatMayBeUndone();
    imagesKeepNothingElse();
    imagesRefused();
    Checks.end();
  }

  private static void marks() {
    SilverFleets x = Checks.told("w0 0;w0 0;w0 0;s1 9 0 0;s10 9 3 4;s0 9 9 11;");
    int[][] due = {
        {1, 1, 1, 2, 1, 1},
        {10, 13, 6, 26, 7, 10},
        {0, 9, -11, 18, -9, 0}};
    for (int s = 0; s < 3; s++) {
      for (int kind = 0; kind <= 5; kind++) {
        Checks.due("mark(" + kind + ", " + s + ")", x.mark(kind, s), due[s][kind]);
      }
    }
    x.waits();
    x.waits();
    x.lists(1, 5);
    int[] then = {15, 18, 11, 36, 12, 17};
    for (int kind = 0; kind <= 5; kind++) {
      Checks.due("mark(" + kind + ", 1) then", x.mark(kind, 1), then[kind]);
    }
  }

  private static void traces() {
    long[] of = {1, 11, 101, 1011, 10101, 100001};
    long all = 0;
    SilverFleets one = Checks.told("s1 1 1 1;");
    for (int kind = 0; kind <= 5; kind++) {
      one.mark(kind, 0);
      all += of[kind];
      Checks.due("trace() behind kind " + kind, one.trace(), all);
    }
    Checks.due("trace() again", one.trace(), all);
    for (int i = 0; i < 400; i++) {
      one.mark(5, 0);
    }
    Checks.due("trace() behind many", one.trace(), all + 400 * 100001L);
    one.keep(0);
    one.mark(0, 0);
    one.back(0);
    one.throwsOff(0, 1);
    one.undo();
    Checks.due("the trace isn't undone", one.trace(), all + 400 * 100001L + 1);
    one.season();
    Checks.due("nor read anew", one.trace(), all + 400 * 100001L + 1);
  }

  private static void marksRefused() {
    SilverFleets x = Checks.told("s1 1 1 1;");
    int[][] bad = {{6, 0}, {-1, 0}, {0, 1}, {0, -1}, {5, 5}, {Integer.MAX_VALUE, 0}, {0, Integer.MIN_VALUE}};
    for (int[] b : bad) {
      Checks.due("mark(" + b[0] + ", " + b[1] + ")", x.mark(b[0], b[1]), NO);
    }
    Checks.due("no trace of these", x.trace(), 0);
    Checks.due("no ships", new SilverFleets().mark(0, 0), NO);
  }

  private static void images() {
    SilverFleets x = Checks.told("w10 0;w0 0;w0 0;s10 20 0 0;s30 40 0 0;s6 6 0 0;k5;");
    x.sails(4, 0);
    Checks.due("keep(0)", x.keep(0), 0);
    x.waits();
    x.lists(0, 5);
    x.sails(2, 0);
    x.raises(2);
    Checks.due("keep(1)", x.keep(1), 1);
    x.waits();
    Checks.due("back(0)", x.back(0), 0);
    int[] then = {0, 3, 0, 0, 0, 12};
    for (int what = 0; what < then.length; what++) {
      Checks.due("image 0: now(" + what + ")", x.now(what), then[what]);
    }
    Checks.due("image 0: ship(0, 0)", x.ship(0, 0), 10);
    Checks.due("image 0: ship(0, 1)", x.ship(0, 1), 20);
    Checks.due("image 0: ship(1, 4)", x.ship(1, 4), 0);
    Checks.due("image 0: ship(2, 4)", x.ship(2, 4), 3);
    Checks.due("back(1)", x.back(1), 1);
    int[] later = {1, 1, 76, 15, 0, 0};
    for (int what = 0; what < later.length; what++) {
      Checks.due("image 1: now(" + what + ")", x.now(what), later[what]);
    }
    Checks.due("image 1: ship(0, 0)", x.ship(0, 0), 15);
    Checks.due("image 1: ship(2, 4)", x.ship(2, 4), 4);
    Checks.due("back(1) again", x.back(1), 1);
    x.throwsOff(0, 30);
    Checks.due("an image isn't changed by deeds", x.back(1), 1);
    Checks.due("image 1: ship(0, 1)", x.ship(0, 1), 15);
    x.waits();
    Checks.due("kept anew", x.keep(0), 2);
    x.undo();
    Checks.due("back to the newer one", x.back(0), 2);
  }

  private static void imagesKeepWhatMayBeUndone() {
    SilverFleets x = Checks.told("s60 60 0 0;");
    x.throwsOff(0, 1);
    x.throwsOff(0, 2);
    x.keep(0);
    for (int n = 0; n < 12; n++) {
      x.throwsOff(0, 3);
    }
    Checks.due("ten are known", x.count(3), 10);
    x.back(0);
    Checks.due("back is no deed, two are known", x.count(3), 2);
    Checks.due("undo", x.undo(), 1);
    Checks.due("hidden", x.ship(0, 1), 59);
    Checks.due("undo", x.undo(), 0);
    Checks.due("hidden", x.ship(0, 1), 60);
    Checks.due("undo", x.undo(), STATE);
    x.back(0);
    Checks.due("undone ones are known again", x.count(3), 2);
    Checks.due("hidden", x.ship(0, 1), 57);
    Checks.due("undo of that", x.undo(), 1);
    Checks.due("hidden", x.ship(0, 1), 59);
  }

  private static void imagesKeepNothingElse() {
    SilverFleets x = Checks.told("w0 0;s5 5 0 0;");
    Checks.type(x, "k1");
    x.keep(0);
    Checks.type(x, ";");
    x.mark(1, 0);
    x.back(0);
    Checks.due("the text stays", x.count(4), 3);
    Checks.due("the trace stays", x.trace(), 11);
    Checks.due("the other image is none", x.back(1), STATE);
  }

  private static void imagesRefused() {
    SilverFleets x = Checks.told("w0 0;");
    int[] bad = {-1, 2, Integer.MAX_VALUE, Integer.MIN_VALUE};
    for (int image : bad) {
      Checks.due("keep(" + image + ")", x.keep(image), BAD);
      Checks.due("back(" + image + ")", x.back(image), BAD);
    }
    Checks.due("back(0) of none", x.back(0), STATE);
    Checks.due("back(1) of none", x.back(1), STATE);
    x.waits();
    Checks.due("a new object can be kept too", new SilverFleets().keep(1), 0);
    Checks.due("keep(1)", x.keep(1), 1);
    Checks.due("back(0) of none still", x.back(0), STATE);
  }
}
