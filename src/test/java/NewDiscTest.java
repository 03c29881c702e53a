/** Promises 1, 12 and 13 on a medium that nothing was written on. */
public final class NewDiscTest {
  public static void main(String[] args) {
    sizes();
    Checks.finish();
  }

  private static void sizes() {
    Checks.part("promise 1, sizes");
    int[] asked = {40, 41, 100, 200, 39, 201, 0, -1, Integer.MIN_VALUE, Integer.MAX_VALUE};
    int[] sectors = {40, 41, 100, 200, 100, 100, 100, 100, 100, 100};
    for (int i = 0; i < asked.length; i++) {
      WriteOnceDisc x = new WriteOnceDisc(asked[i]);
      Checks.due("state of the last sector, n " + asked[i], x.state(sectors[i] - 1), 0);
      Checks.due("state behind the last sector, n " + asked[i], x.state(sectors[i]), WriteOnceDisc.NONE);
    }
  }
}
