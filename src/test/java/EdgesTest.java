/** For each sentence of the document a test of its own; and none is left. */
public final class EdgesTest extends Edges {
  public static void main(String[] args) {
    AnswerEdges.all();
    InputEdges.all();
    TermEdges.all();
    ProgramEdges.all();
    StatementEdges.all();
    WalkEdges.all();
    PathEdges.all();
    GoalEdges.all();
    RefusedCalls.all();
    allIsTold();
    System.out.println(asked + " answers at edges, " + wrong + " wrong");
    System.exit(wrong == 0 ? 0 : 1);
  }
}
