import java.io.IOException;

/** Each sentence of the document that names a boundary: the tests stand in the classes whose names end in Edges. */
final class EdgesTest {
    public static void main(String[] args) throws IOException {
        Edges edges = new Edges(new Document());
        edges.part(StructureEdges::run);
        edges.part(StepEdges::run);
        edges.part(SensorEdges::run);
        edges.part(SpecificationEdges::run);
        edges.part(RunEdges::run);
        edges.part(LoopEdges::run);
        edges.part(NotchEdges::run);
        edges.part(FeltEdges::run);
        edges.part(ShockEdges::run);
        edges.part(FatigueEdges::run);
        edges.part(EvidenceEdges::run);
        edges.part(SoundEdges::run);
        edges.part(OrderEdges::run);
        edges.part(SharingEdges::run);
        edges.end();
    }
}
