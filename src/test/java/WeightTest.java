/** Promise 6: weight. */
final class WeightTest {
  private static final Due DUE = new Due();

  public static void main(String[] args) {
    whatTheyWere();
    whatTheyWeigh();
    DUE.end();
  }

  private static void whatTheyWere() {
    NearFinder x = new NearFinder();
    int[] first = {10, 10, 15, 5, 60, 20};
    for (int bad : new int[] {-1, 6, Integer.MIN_VALUE, Integer.MAX_VALUE}) {
      DUE.is("weight of kind " + bad, x.weight(bad, 1), -1);
    }
    for (int kind = 0; kind < 6; kind++) {
      for (int bad : new int[] {-1, 1001, Integer.MIN_VALUE, Integer.MAX_VALUE}) {
        DUE.is("weight " + bad + " of kind " + kind, x.weight(kind, bad), -1);
      }
      DUE.is("first weight of kind " + kind, x.weight(kind, 1000), first[kind]);
      DUE.is("greatest weight of kind " + kind, x.weight(kind, 0), 1000);
      DUE.is("least weight of kind " + kind, x.weight(kind, kind), 0);
    }
    for (int kind = 0; kind < 6; kind++) {
      DUE.is("each kind has its own: " + kind, x.weight(kind, 7), kind);
    }
  }

  private static void whatTheyWeigh() {
    NearFinder x = new NearFinder();
    Given.entry(x, 0, "ax", "eb");
    Given.ask(x, NearFinder.BAD, "a", "exb", "ep");
    Given.weights(x, 101, 202, 293, 31, 707, 64);
    DUE.is("put in", x.changes(0, 0, 0), 101);
    DUE.is("left out", x.changes(1, 0, 1), 202);
    DUE.is("exchanged for one that sounds alike", x.changes(2, 0, 1), 31);
    DUE.is("exchanged for another", x.changes(0, 0, 1), 293 + 101);
    x.weight(3, 900);
    DUE.is("alike weighs the lesser of kinds 2 and 3", x.changes(2, 0, 1), 293);
    DUE.is("missing", x.sumOf(0), 101 + 202 + 707);

    Given.ask(x, NearFinder.BAD, "eb", "ax");
    DUE.is("the other way round", x.sumOf(0), 64);
    x.weight(5, 1000);
    DUE.is("turned, since four exchanges weigh more", x.sumOf(0), 1000);
    x.weight(2, 200);
    DUE.is("rather exchanged than turned", x.sumOf(0), 4 * 200);
  }
}
