public final class FaceTest { public static void main(String[] a) { new IdentityIssuer(1); } }
