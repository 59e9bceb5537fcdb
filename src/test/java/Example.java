/** The example of README.md: ReadmeTest looks that it stands there as it stands here, with what it prints. */
public final class Example {
    public static void main(String[] args) {
        PageRotas rotas = new PageRotas();
        int ann = rotas.person();
        int bob = rotas.person();
        int europe = rotas.region(8, 20, 12);   // from 8 up to 20 o'clock, in shifts of 12 hours
        rotas.join(europe, ann);
        rotas.join(europe, bob);
        rotas.pass(600);                        // it is 10 o'clock then
        int incident = rotas.alert(3, 1);       // of the cause 3, with the severity 1
        tell("its owner", rotas.incidentOf(incident, 3));
        tell("its owner in ten minutes", rotas.later(incident, 10, 0));
        rotas.pass(4);
        tell("minutes until somebody answered", rotas.acknowledge(incident));
        tell("answered twice", rotas.acknowledge(incident));
        tell("region on call in ten hours", rotas.onCall(600, -1));

        for (char sign : "o0,1,2;r0;".toCharArray()) {
            rotas.type(sign);                   // an override for two hours, then the incident 0 is resolved
        }
        tell("position of a fault", rotas.fault(0));
        tell("commands done", rotas.play());
        tell("on call now", rotas.onCall(0, 0));
        tell("states left after undo", rotas.undo());
        tell("incidents that are open again", rotas.count(3));

        int bits = rotas.acknowledgeBits();
        if (bits >= 0) {
            System.out.println("mean time of acknowledging: " + Float.intBitsToFloat(bits));
        }
    }

    private static void tell(String what, int answer) {
        System.out.println(what + ": " + (answer == PageRotas.NOT_FOUND ? "none" : answer));
    }
}
