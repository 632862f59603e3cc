public final class ModelTest { public static void main(String[] a) { } }
