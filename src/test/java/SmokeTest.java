public final class SmokeTest { public static void main(String[] a) { if (new BlinkerCross().count(0) != 0) System.exit(1); } }
