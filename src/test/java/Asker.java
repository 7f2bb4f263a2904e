/**
 * Asks as many questions as there may be: when an object has had its 512 calls, another one is
 * brought to the same state. The object that is asked about is not asked at all.
 */
final class Asker implements Asked {
  private final Used used;
  private Bookingstree object;
  private int calls;

  Asker(Used used) {
    this.used = used;
    calls = Used.MOST_CALLS;
  }

  @Override
  public String tell(String name, int... a) {
    if (calls >= Used.MOST_CALLS) {
      object = used.again();
      calls = used.calls();
    }
    if (calls >= Used.MOST_CALLS) {
      throw new AssertionError("the test leaves no call to ask by");
    }
    calls++;
    return Runs.tell(object, name, a);
  }
}
