/** What can be asked by the names of its calls. */
interface Asked {
  String tell(String name, int... a);

  default int number(String name, int... a) {
    return Integer.parseInt(tell(name, a));
  }
}
