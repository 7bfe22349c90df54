def R_Bus : String := "RobotBus"
def F_Bus : u_T := fun k => match k with
  | 0 => ("RobotBus", "nodes", "[LRobotBus$Node;", true)
  | 1 => ("RobotBus", "topics", "[LRobotBus$Topic;", true)
  | 2 => ("RobotBus", "services", "[LRobotBus$Service;", true)
  | 3 => ("RobotBus", "frames", "[LRobotBus$Frame;", true)
  | 4 => ("RobotBus", "bag", "LRobotBus$Bag;", true)
  | 5 => ("RobotBus", "point", "LRobotBus$Point;", true)
  | 6 => ("RobotBus", "clock", "I", false)
  | 7 => ("RobotBus", "messagesLost", "I", false)
  | 8 => ("RobotBus", "messagesPublished", "I", false)
  | 9 => ("RobotBus", "actionsDone", "I", false)
  | 10 => ("RobotBus", "asksFailed", "I", false)
  | 11 => ("RobotBus", "answer", "I", false)
  | _ => ("RobotBus", "keptY", "D", false)
def t_Bus : Nat → FieldType := fun k => match k with
  | 0 => .array (.object "RobotBus$Node")
  | 1 => .array (.object "RobotBus$Topic")
  | 2 => .array (.object "RobotBus$Service")
  | 3 => .array (.object "RobotBus$Frame")
  | 4 => .object "RobotBus$Bag"
  | 5 => .object "RobotBus$Point"
  | 6 => .int
  | 7 => .int
  | 8 => .int
  | 9 => .int
  | 10 => .int
  | 11 => .int
  | _ => .double
theorem n_Bus : ∀ a, a < 13 → ∀ b, b < 13 → a ≠ b → (F_Bus a).2.1 ≠ (F_Bus b).2.1 := by decide +kernel
theorem tk_Bus : ∀ k, k < 13 → parseFieldDescriptor (F_Bus k).2.2.1 = some (t_Bus k) := by decide +kernel
def R_Nod : String := "RobotBus$Node"
def F_Nod : u_T := fun k => match k with
  | 0 => ("RobotBus$Node", "variables", "[I", true)
  | 1 => ("RobotBus$Node", "queues", "[LRobotBus$Queue;", true)
  | 2 => ("RobotBus$Node", "actions", "[LRobotBus$Action;", true)
  | 3 => ("RobotBus$Node", "present", "Z", false)
  | _ => ("RobotBus$Node", "firstLookedAt", "I", false)
def t_Nod : Nat → FieldType := fun k => match k with
  | 0 => .array .int
  | 1 => .array (.object "RobotBus$Queue")
  | 2 => .array (.object "RobotBus$Action")
  | 3 => .boolean
  | _ => .int
theorem n_Nod : ∀ a, a < 5 → ∀ b, b < 5 → a ≠ b → (F_Nod a).2.1 ≠ (F_Nod b).2.1 := by decide +kernel
theorem tk_Nod : ∀ k, k < 5 → parseFieldDescriptor (F_Nod k).2.2.1 = some (t_Nod k) := by decide +kernel
def R_Que : String := "RobotBus$Queue"
def F_Que : u_T := fun k => match k with
  | 0 => ("RobotBus$Queue", "cells", "[I", true)
  | 1 => ("RobotBus$Queue", "depth", "I", false)
  | _ => ("RobotBus$Queue", "size", "I", false)
def t_Que : Nat → FieldType := fun k => match k with
  | 0 => .array .int
  | 1 => .int
  | _ => .int
theorem n_Que : ∀ a, a < 3 → ∀ b, b < 3 → a ≠ b → (F_Que a).2.1 ≠ (F_Que b).2.1 := by decide +kernel
theorem tk_Que : ∀ k, k < 3 → parseFieldDescriptor (F_Que k).2.2.1 = some (t_Que k) := by decide +kernel
def R_Act : String := "RobotBus$Action"
def F_Act : u_T := fun k => match k with
  | 0 => ("RobotBus$Action", "kind", "I", false)
  | 1 => ("RobotBus$Action", "a", "I", false)
  | _ => ("RobotBus$Action", "b", "I", false)
def t_Act : Nat → FieldType := fun k => match k with
  | 0 => .int
  | 1 => .int
  | _ => .int
theorem n_Act : ∀ a, a < 3 → ∀ b, b < 3 → a ≠ b → (F_Act a).2.1 ≠ (F_Act b).2.1 := by decide +kernel
theorem tk_Act : ∀ k, k < 3 → parseFieldDescriptor (F_Act k).2.2.1 = some (t_Act k) := by decide +kernel
def R_Top : String := "RobotBus$Topic"
def F_Top : u_T := fun k => match k with
  | 0 => ("RobotBus$Topic", "latched", "Z", false)
  | 1 => ("RobotBus$Topic", "recorded", "Z", false)
  | 2 => ("RobotBus$Topic", "hasLast", "Z", false)
  | 3 => ("RobotBus$Topic", "lastValue", "I", false)
  | 4 => ("RobotBus$Topic", "lastSender", "I", false)
  | _ => ("RobotBus$Topic", "lastStamp", "I", false)
def t_Top : Nat → FieldType := fun k => match k with
  | 0 => .boolean
  | 1 => .boolean
  | 2 => .boolean
  | 3 => .int
  | 4 => .int
  | _ => .int
theorem n_Top : ∀ a, a < 6 → ∀ b, b < 6 → a ≠ b → (F_Top a).2.1 ≠ (F_Top b).2.1 := by decide +kernel
theorem tk_Top : ∀ k, k < 6 → parseFieldDescriptor (F_Top k).2.2.1 = some (t_Top k) := by decide +kernel
def R_Srv : String := "RobotBus$Service"
def F_Srv : u_T := fun k => match k with
  | 0 => ("RobotBus$Service", "node", "I", false)
  | 1 => ("RobotBus$Service", "kind", "I", false)
  | 2 => ("RobotBus$Service", "c", "I", false)
  | _ => ("RobotBus$Service", "d", "I", false)
def t_Srv : Nat → FieldType := fun k => match k with
  | 0 => .int
  | 1 => .int
  | 2 => .int
  | _ => .int
theorem n_Srv : ∀ a, a < 4 → ∀ b, b < 4 → a ≠ b → (F_Srv a).2.1 ≠ (F_Srv b).2.1 := by decide +kernel
theorem tk_Srv : ∀ k, k < 4 → parseFieldDescriptor (F_Srv k).2.2.1 = some (t_Srv k) := by decide +kernel
def R_Frm : String := "RobotBus$Frame"
def F_Frm : u_T := fun k => match k with
  | 0 => ("RobotBus$Frame", "times", "[I", true)
  | 1 => ("RobotBus$Frame", "xs", "[I", true)
  | 2 => ("RobotBus$Frame", "ys", "[I", true)
  | 3 => ("RobotBus$Frame", "turns", "[I", true)
  | 4 => ("RobotBus$Frame", "parent", "I", false)
  | _ => ("RobotBus$Frame", "size", "I", false)
def t_Frm : Nat → FieldType := fun k => match k with
  | 0 => .array .int
  | 1 => .array .int
  | 2 => .array .int
  | 3 => .array .int
  | 4 => .int
  | _ => .int
theorem n_Frm : ∀ a, a < 6 → ∀ b, b < 6 → a ≠ b → (F_Frm a).2.1 ≠ (F_Frm b).2.1 := by decide +kernel
theorem tk_Frm : ∀ k, k < 6 → parseFieldDescriptor (F_Frm k).2.2.1 = some (t_Frm k) := by decide +kernel
def R_Bag : String := "RobotBus$Bag"
def F_Bag : u_T := fun k => match k with
  | 0 => ("RobotBus$Bag", "times", "[I", true)
  | 1 => ("RobotBus$Bag", "topics", "[I", true)
  | 2 => ("RobotBus$Bag", "values", "[I", true)
  | 3 => ("RobotBus$Bag", "size", "I", false)
  | 4 => ("RobotBus$Bag", "next", "I", false)
  | 5 => ("RobotBus$Bag", "end", "I", false)
  | 6 => ("RobotBus$Bag", "startClock", "I", false)
  | _ => ("RobotBus$Bag", "pace", "I", false)
def t_Bag : Nat → FieldType := fun k => match k with
  | 0 => .array .int
  | 1 => .array .int
  | 2 => .array .int
  | 3 => .int
  | 4 => .int
  | 5 => .int
  | 6 => .int
  | _ => .int
theorem n_Bag : ∀ a, a < 8 → ∀ b, b < 8 → a ≠ b → (F_Bag a).2.1 ≠ (F_Bag b).2.1 := by decide +kernel
theorem tk_Bag : ∀ k, k < 8 → parseFieldDescriptor (F_Bag k).2.2.1 = some (t_Bag k) := by decide +kernel
def R_Pnt : String := "RobotBus$Point"
def F_Pnt : u_T := fun k => match k with
  | 0 => ("RobotBus$Point", "x", "I", false)
  | _ => ("RobotBus$Point", "y", "I", false)
def t_Pnt : Nat → FieldType := fun k => match k with
  | 0 => .int
  | _ => .int
theorem n_Pnt : ∀ a, a < 2 → ∀ b, b < 2 → a ≠ b → (F_Pnt a).2.1 ≠ (F_Pnt b).2.1 := by decide +kernel
theorem tk_Pnt : ∀ k, k < 2 → parseFieldDescriptor (F_Pnt k).2.2.1 = some (t_Pnt k) := by decide +kernel
def R_Mdl : String := "RobotBusModel"
def F_Mdl : u_T := fun k => match k with
  | 0 => ("RobotBusModel", "thrown", "I", false)
  | 1 => ("RobotBusModel", "clock", "I", false)
  | 2 => ("RobotBusModel", "there", "[Z", true)
  | 3 => ("RobotBusModel", "vars", "[I", true)
  | 4 => ("RobotBusModel", "took", "[I", true)
  | 5 => ("RobotBusModel", "depth", "[I", true)
  | 6 => ("RobotBusModel", "waiting", "[I", true)
  | 7 => ("RobotBusModel", "value", "[I", true)
  | 8 => ("RobotBusModel", "sender", "[I", true)
  | 9 => ("RobotBusModel", "stamp", "[I", true)
  | 10 => ("RobotBusModel", "aKind", "[I", true)
  | 11 => ("RobotBusModel", "aA", "[I", true)
  | 12 => ("RobotBusModel", "aB", "[I", true)
  | 13 => ("RobotBusModel", "latched", "[Z", true)
  | 14 => ("RobotBusModel", "hasLast", "[Z", true)
  | 15 => ("RobotBusModel", "lastValue", "[I", true)
  | 16 => ("RobotBusModel", "lastSender", "[I", true)
  | 17 => ("RobotBusModel", "lastStamp", "[I", true)
  | 18 => ("RobotBusModel", "kept", "[Z", true)
  | 19 => ("RobotBusModel", "by", "[I", true)
  | 20 => ("RobotBusModel", "sKind", "[I", true)
  | 21 => ("RobotBusModel", "sC", "[I", true)
  | 22 => ("RobotBusModel", "sD", "[I", true)
  | 23 => ("RobotBusModel", "bagTime", "[I", true)
  | 24 => ("RobotBusModel", "bagTopic", "[I", true)
  | 25 => ("RobotBusModel", "bagValue", "[I", true)
  | 26 => ("RobotBusModel", "bag", "I", false)
  | 27 => ("RobotBusModel", "playing", "Z", false)
  | 28 => ("RobotBusModel", "began", "I", false)
  | 29 => ("RobotBusModel", "speed", "I", false)
  | 30 => ("RobotBusModel", "nextRecord", "I", false)
  | 31 => ("RobotBusModel", "lastRecord", "I", false)
  | 32 => ("RobotBusModel", "parent", "[I", true)
  | 33 => ("RobotBusModel", "samples", "[I", true)
  | 34 => ("RobotBusModel", "sTime", "[I", true)
  | 35 => ("RobotBusModel", "sX", "[J", true)
  | 36 => ("RobotBusModel", "sY", "[J", true)
  | 37 => ("RobotBusModel", "sTurn", "[I", true)
  | 38 => ("RobotBusModel", "px", "J", false)
  | 39 => ("RobotBusModel", "py", "J", false)
  | 40 => ("RobotBusModel", "lastY", "D", false)
  | 41 => ("RobotBusModel", "lost", "I", false)
  | 42 => ("RobotBusModel", "published", "I", false)
  | 43 => ("RobotBusModel", "actions", "I", false)
  | 44 => ("RobotBusModel", "failures", "I", false)
  | _ => ("RobotBusModel", "trouble", "I", false)
def t_Mdl : Nat → FieldType := fun k => match k with
  | 0 => .int
  | 1 => .int
  | 2 => .array .boolean
  | 3 => .array .int
  | 4 => .array .int
  | 5 => .array .int
  | 6 => .array .int
  | 7 => .array .int
  | 8 => .array .int
  | 9 => .array .int
  | 10 => .array .int
  | 11 => .array .int
  | 12 => .array .int
  | 13 => .array .boolean
  | 14 => .array .boolean
  | 15 => .array .int
  | 16 => .array .int
  | 17 => .array .int
  | 18 => .array .boolean
  | 19 => .array .int
  | 20 => .array .int
  | 21 => .array .int
  | 22 => .array .int
  | 23 => .array .int
  | 24 => .array .int
  | 25 => .array .int
  | 26 => .int
  | 27 => .boolean
  | 28 => .int
  | 29 => .int
  | 30 => .int
  | 31 => .int
  | 32 => .array .int
  | 33 => .array .int
  | 34 => .array .int
  | 35 => .array .long
  | 36 => .array .long
  | 37 => .array .int
  | 38 => .long
  | 39 => .long
  | 40 => .double
  | 41 => .int
  | 42 => .int
  | 43 => .int
  | 44 => .int
  | _ => .int
theorem n_Mdl : ∀ a, a < 46 → ∀ b, b < 46 → a ≠ b → (F_Mdl a).2.1 ≠ (F_Mdl b).2.1 := by decide +kernel
theorem tk_Mdl : ∀ k, k < 46 → parseFieldDescriptor (F_Mdl k).2.2.1 = some (t_Mdl k) := by decide +kernel
def R_Law : String := "RobotBusLaw"
def R_Math : String := "java/lang/Math"
abbrev clsB : List vw_C := [(R_Bus, F_Bus, 13), (R_Nod, F_Nod, 5), (R_Que, F_Que, 3), (R_Act, F_Act, 3), (R_Top, F_Top, 6), (R_Srv, F_Srv, 4), (R_Frm, F_Frm, 6), (R_Bag, F_Bag, 8), (R_Pnt, F_Pnt, 2), (R_Mdl, F_Mdl, 46)]
abbrev b_Bus_init : ByteArray := prog_1_method_1_code
def y_Bus_init : MethodName := ⟨"RobotBus", "<init>", "()V"⟩
abbrev w_Bus_init : List Cond := Cond.code y_Bus_init b_Bus_init 2 none :: gtb
abbrev b_Bag_init : ByteArray := prog_3_method_1_code
def y_Bag_init : MethodName := ⟨"RobotBus$Bag", "<init>", "()V"⟩
abbrev w_Bag_init : List Cond := Cond.code y_Bag_init b_Bag_init 1 none :: gtb
abbrev b_Pnt_init : ByteArray := prog_6_method_1_code
def y_Pnt_init : MethodName := ⟨"RobotBus$Point", "<init>", "()V"⟩
abbrev w_Pnt_init : List Cond := Cond.code y_Pnt_init b_Pnt_init 1 none :: gtb
abbrev b_Nod_init : ByteArray := prog_5_method_1_code
def y_Nod_init : MethodName := ⟨"RobotBus$Node", "<init>", "()V"⟩
abbrev w_Nod_init : List Cond := Cond.code y_Nod_init b_Nod_init 2 none :: gtb
abbrev b_Que_init : ByteArray := prog_7_method_1_code
def y_Que_init : MethodName := ⟨"RobotBus$Queue", "<init>", "()V"⟩
abbrev w_Que_init : List Cond := Cond.code y_Que_init b_Que_init 1 none :: gtb
abbrev b_Act_init : ByteArray := prog_2_method_1_code
def y_Act_init : MethodName := ⟨"RobotBus$Action", "<init>", "()V"⟩
abbrev w_Act_init : List Cond := Cond.code y_Act_init b_Act_init 1 none :: gtb
abbrev b_Top_init : ByteArray := prog_9_method_1_code
def y_Top_init : MethodName := ⟨"RobotBus$Topic", "<init>", "()V"⟩
abbrev w_Top_init : List Cond := Cond.code y_Top_init b_Top_init 1 none :: gtb
abbrev b_Srv_init : ByteArray := prog_8_method_1_code
def y_Srv_init : MethodName := ⟨"RobotBus$Service", "<init>", "()V"⟩
abbrev w_Srv_init : List Cond := Cond.code y_Srv_init b_Srv_init 1 none :: gtb
abbrev b_Frm_init : ByteArray := prog_4_method_1_code
def y_Frm_init : MethodName := ⟨"RobotBus$Frame", "<init>", "()V"⟩
abbrev w_Frm_init : List Cond := Cond.code y_Frm_init b_Frm_init 1 none :: gtb
abbrev b_Bus_lastY : ByteArray := prog_1_method_20_code
def y_Bus_lastY : MethodName := ⟨"RobotBus", "lastY", "()D"⟩
abbrev w_Bus_lastY : List Cond := Cond.code y_Bus_lastY b_Bus_lastY 1 (some .double) :: gtb
abbrev b_Bus_join : ByteArray := prog_1_method_2_code
def y_Bus_join : MethodName := ⟨"RobotBus", "join", "(I)I"⟩
abbrev w_Bus_join : List Cond := Cond.code y_Bus_join b_Bus_join 2 (some .int) :: gtb
abbrev b_Bus_isBelow : ByteArray := prog_1_method_23_code
def y_Bus_isBelow : MethodName := ⟨"RobotBus", "isBelow", "(II)Z"⟩
abbrev w_Bus_isBelow : List Cond := Cond.code y_Bus_isBelow b_Bus_isBelow 2 (some .boolean) :: gtb
abbrev b_Bus_leave : ByteArray := prog_1_method_3_code
def y_Bus_leave : MethodName := ⟨"RobotBus", "leave", "(I)I"⟩
abbrev w_Bus_leave : List Cond := Cond.code y_Bus_leave b_Bus_leave 3 (some .int) :: gtb
abbrev b_Bus_isThere : ByteArray := prog_1_method_24_code
def y_Bus_isThere : MethodName := ⟨"RobotBus", "isThere", "(I)Z"⟩
abbrev w_Bus_isThere : List Cond := Cond.code y_Bus_isThere b_Bus_isThere 2 (some .boolean) :: gtb
abbrev b_Nod_reset : ByteArray := prog_5_method_2_code
def y_Nod_reset : MethodName := ⟨"RobotBus$Node", "reset", "()I"⟩
abbrev w_Nod_reset : List Cond := Cond.code y_Nod_reset b_Nod_reset 3 (some .int) :: gtb
abbrev b_Que_close : ByteArray := prog_7_method_4_code
def y_Que_close : MethodName := ⟨"RobotBus$Queue", "close", "()I"⟩
abbrev w_Que_close : List Cond := Cond.code y_Que_close b_Que_close 2 (some .int) :: gtb
abbrev b_Bus_latch : ByteArray := prog_1_method_4_code
def y_Bus_latch : MethodName := ⟨"RobotBus", "latch", "(IZ)I"⟩
abbrev w_Bus_latch : List Cond := Cond.code y_Bus_latch b_Bus_latch 4 (some .int) :: gtb
abbrev b_Bus_subscribe : ByteArray := prog_1_method_5_code
def y_Bus_subscribe : MethodName := ⟨"RobotBus", "subscribe", "(III)I"⟩
abbrev w_Bus_subscribe : List Cond := Cond.code y_Bus_subscribe b_Bus_subscribe 7 (some .int) :: gtb
abbrev b_Bus_isWithin : ByteArray := prog_1_method_22_code
def y_Bus_isWithin : MethodName := ⟨"RobotBus", "isWithin", "(III)Z"⟩
abbrev w_Bus_isWithin : List Cond := Cond.code y_Bus_isWithin b_Bus_isWithin 3 (some .boolean) :: gtb
abbrev b_Que_isOpen : ByteArray := prog_7_method_2_code
def y_Que_isOpen : MethodName := ⟨"RobotBus$Queue", "isOpen", "()Z"⟩
abbrev w_Que_isOpen : List Cond := Cond.code y_Que_isOpen b_Que_isOpen 1 (some .boolean) :: gtb
abbrev b_Que_deepen : ByteArray := prog_7_method_5_code
def y_Que_deepen : MethodName := ⟨"RobotBus$Queue", "deepen", "(I)I"⟩
abbrev w_Que_deepen : List Cond := Cond.code y_Que_deepen b_Que_deepen 3 (some .int) :: gtb
abbrev b_Math_max : ByteArray := prog_16_method_65_code
def y_Math_max : MethodName := ⟨"java/lang/Math", "max", "(II)I"⟩
abbrev w_Math_max : List Cond := Cond.code y_Math_max b_Math_max 2 (some .int) :: gtb
abbrev b_Que_dropOldest : ByteArray := prog_7_method_7_code
def y_Que_dropOldest : MethodName := ⟨"RobotBus$Queue", "dropOldest", "(I)V"⟩
abbrev w_Que_dropOldest : List Cond := Cond.code y_Que_dropOldest b_Que_dropOldest 2 none :: gtb
abbrev b_Que_append : ByteArray := prog_7_method_6_code
def y_Que_append : MethodName := ⟨"RobotBus$Queue", "append", "(III)I"⟩
abbrev w_Que_append : List Cond := Cond.code y_Que_append b_Que_append 6 (some .int) :: gtb
abbrev b_Bus_unsubscribe : ByteArray := prog_1_method_6_code
def y_Bus_unsubscribe : MethodName := ⟨"RobotBus", "unsubscribe", "(II)I"⟩
abbrev w_Bus_unsubscribe : List Cond := Cond.code y_Bus_unsubscribe b_Bus_unsubscribe 3 (some .int) :: gtb
abbrev b_Bus_publish : ByteArray := prog_1_method_7_code
def y_Bus_publish : MethodName := ⟨"RobotBus", "publish", "(III)I"⟩
abbrev w_Bus_publish : List Cond := Cond.code y_Bus_publish b_Bus_publish 4 (some .int) :: gtb
abbrev b_Bus_send : ByteArray := prog_1_method_29_code
def y_Bus_send : MethodName := ⟨"RobotBus", "send", "(III)I"⟩
abbrev w_Bus_send : List Cond := Cond.code y_Bus_send b_Bus_send 7 (some .int) :: gtb
abbrev b_Top_setLast : ByteArray := prog_9_method_2_code
def y_Top_setLast : MethodName := ⟨"RobotBus$Topic", "setLast", "(III)V"⟩
abbrev w_Top_setLast : List Cond := Cond.code y_Top_setLast b_Top_setLast 4 none :: gtb
abbrev b_Bag_append : ByteArray := prog_3_method_2_code
def y_Bag_append : MethodName := ⟨"RobotBus$Bag", "append", "(III)V"⟩
abbrev w_Bag_append : List Cond := Cond.code y_Bag_append b_Bag_append 4 none :: gtb
abbrev b_Bus_act : ByteArray := prog_1_method_8_code
def y_Bus_act : MethodName := ⟨"RobotBus", "act", "(IIIII)I"⟩
abbrev w_Bus_act : List Cond := Cond.code y_Bus_act b_Bus_act 8 (some .int) :: gtb
abbrev b_Bus_isAction : ByteArray := prog_1_method_25_code
def y_Bus_isAction : MethodName := ⟨"RobotBus", "isAction", "(III)Z"⟩
abbrev w_Bus_isAction : List Cond := Cond.code y_Bus_isAction b_Bus_isAction 3 (some .boolean) :: gtb
abbrev b_Bus_offer : ByteArray := prog_1_method_9_code
def y_Bus_offer : MethodName := ⟨"RobotBus", "offer", "(IIIII)I"⟩
abbrev w_Bus_offer : List Cond := Cond.code y_Bus_offer b_Bus_offer 8 (some .int) :: gtb
abbrev b_Bus_isService : ByteArray := prog_1_method_26_code
def y_Bus_isService : MethodName := ⟨"RobotBus", "isService", "(IIII)Z"⟩
abbrev w_Bus_isService : List Cond := Cond.code y_Bus_isService b_Bus_isService 4 (some .boolean) :: gtb
abbrev b_Bus_call : ByteArray := prog_1_method_10_code
def y_Bus_call : MethodName := ⟨"RobotBus", "call", "(II)I"⟩
abbrev w_Bus_call : List Cond := Cond.code y_Bus_call b_Bus_call 4 (some .int) :: gtb
abbrev b_Bus_ask : ByteArray := prog_1_method_33_code
def y_Bus_ask : MethodName := ⟨"RobotBus", "ask", "(II)I"⟩
abbrev w_Bus_ask : List Cond := Cond.code y_Bus_ask b_Bus_ask 7 (some .int) :: gtb
abbrev b_Bus_compute : ByteArray := prog_1_method_34_code
def y_Bus_compute : MethodName := ⟨"RobotBus", "compute", "(LRobotBus$Service;II)I"⟩
abbrev w_Bus_compute : List Cond := Cond.code y_Bus_compute b_Bus_compute 6 (some .int) :: gtb
abbrev b_Bus_tick : ByteArray := prog_1_method_11_code
def y_Bus_tick : MethodName := ⟨"RobotBus", "tick", "(I)I"⟩
abbrev w_Bus_tick : List Cond := Cond.code y_Bus_tick b_Bus_tick 3 (some .int) :: gtb
abbrev b_Bus_passOneTick : ByteArray := prog_1_method_30_code
def y_Bus_passOneTick : MethodName := ⟨"RobotBus", "passOneTick", "()V"⟩
abbrev w_Bus_passOneTick : List Cond := Cond.code y_Bus_passOneTick b_Bus_passOneTick 3 none :: gtb
abbrev b_Bag_isDue : ByteArray := prog_3_method_5_code
def y_Bag_isDue : MethodName := ⟨"RobotBus$Bag", "isDue", "(I)Z"⟩
abbrev w_Bag_isDue : List Cond := Cond.code y_Bag_isDue b_Bag_isDue 3 (some .boolean) :: gtb
abbrev b_Bag_isPlaying : ByteArray := prog_3_method_4_code
def y_Bag_isPlaying : MethodName := ⟨"RobotBus$Bag", "isPlaying", "()Z"⟩
abbrev w_Bag_isPlaying : List Cond := Cond.code y_Bag_isPlaying b_Bag_isPlaying 1 (some .boolean) :: gtb
abbrev b_Bag_takeNext : ByteArray := prog_3_method_6_code
def y_Bag_takeNext : MethodName := ⟨"RobotBus$Bag", "takeNext", "()I"⟩
abbrev w_Bag_takeNext : List Cond := Cond.code y_Bag_takeNext b_Bag_takeNext 2 (some .int) :: gtb
abbrev b_Bus_spin : ByteArray := prog_1_method_31_code
def y_Bus_spin : MethodName := ⟨"RobotBus", "spin", "(I)V"⟩
abbrev w_Bus_spin : List Cond := Cond.code y_Bus_spin b_Bus_spin 5 none :: gtb
abbrev b_Nod_nextTopic : ByteArray := prog_5_method_3_code
def y_Nod_nextTopic : MethodName := ⟨"RobotBus$Node", "nextTopic", "()I"⟩
abbrev w_Nod_nextTopic : List Cond := Cond.code y_Nod_nextTopic b_Nod_nextTopic 3 (some .int) :: gtb
abbrev b_Nod_takeFrom : ByteArray := prog_5_method_4_code
def y_Nod_takeFrom : MethodName := ⟨"RobotBus$Node", "takeFrom", "(I)I"⟩
abbrev w_Nod_takeFrom : List Cond := Cond.code y_Nod_takeFrom b_Nod_takeFrom 3 (some .int) :: gtb
abbrev b_Que_part : ByteArray := prog_7_method_3_code
def y_Que_part : MethodName := ⟨"RobotBus$Queue", "part", "(II)I"⟩
abbrev w_Que_part : List Cond := Cond.code y_Que_part b_Que_part 3 (some .int) :: gtb
abbrev b_Bus_perform : ByteArray := prog_1_method_32_code
def y_Bus_perform : MethodName := ⟨"RobotBus", "perform", "(ILRobotBus$Action;I)V"⟩
abbrev w_Bus_perform : List Cond := Cond.code y_Bus_perform b_Bus_perform 5 none :: gtb
abbrev b_Bus_variable : ByteArray := prog_1_method_12_code
def y_Bus_variable : MethodName := ⟨"RobotBus", "variable", "(II)I"⟩
abbrev w_Bus_variable : List Cond := Cond.code y_Bus_variable b_Bus_variable 3 (some .int) :: gtb
abbrev b_Bus_queued : ByteArray := prog_1_method_13_code
def y_Bus_queued : MethodName := ⟨"RobotBus", "queued", "(IIII)I"⟩
abbrev w_Bus_queued : List Cond := Cond.code y_Bus_queued b_Bus_queued 6 (some .int) :: gtb
abbrev b_Bus_keep : ByteArray := prog_1_method_14_code
def y_Bus_keep : MethodName := ⟨"RobotBus", "keep", "(IZ)I"⟩
abbrev w_Bus_keep : List Cond := Cond.code y_Bus_keep b_Bus_keep 4 (some .int) :: gtb
abbrev b_Bus_play : ByteArray := prog_1_method_15_code
def y_Bus_play : MethodName := ⟨"RobotBus", "play", "(I)I"⟩
abbrev w_Bus_play : List Cond := Cond.code y_Bus_play b_Bus_play 2 (some .int) :: gtb
abbrev b_Bag_start : ByteArray := prog_3_method_3_code
def y_Bag_start : MethodName := ⟨"RobotBus$Bag", "start", "(II)V"⟩
abbrev w_Bag_start : List Cond := Cond.code y_Bag_start b_Bag_start 3 none :: gtb
abbrev b_Bus_empty : ByteArray := prog_1_method_16_code
def y_Bus_empty : MethodName := ⟨"RobotBus", "empty", "()I"⟩
abbrev w_Bus_empty : List Cond := Cond.code y_Bus_empty b_Bus_empty 2 (some .int) :: gtb
abbrev b_Bus_mount : ByteArray := prog_1_method_17_code
def y_Bus_mount : MethodName := ⟨"RobotBus", "mount", "(II)I"⟩
abbrev w_Bus_mount : List Cond := Cond.code y_Bus_mount b_Bus_mount 4 (some .int) :: gtb
abbrev b_Bus_isAbove : ByteArray := prog_1_method_35_code
def y_Bus_isAbove : MethodName := ⟨"RobotBus", "isAbove", "(II)Z"⟩
abbrev w_Bus_isAbove : List Cond := Cond.code y_Bus_isAbove b_Bus_isAbove 5 (some .boolean) :: gtb
abbrev b_Bus_sample : ByteArray := prog_1_method_18_code
def y_Bus_sample : MethodName := ⟨"RobotBus", "sample", "(IIDDI)I"⟩
abbrev w_Bus_sample : List Cond := Cond.code y_Bus_sample b_Bus_sample 8 (some .int) :: gtb
abbrev b_Bus_isCoordinate : ByteArray := prog_1_method_27_code
def y_Bus_isCoordinate : MethodName := ⟨"RobotBus", "isCoordinate", "(D)Z"⟩
abbrev w_Bus_isCoordinate : List Cond := Cond.code y_Bus_isCoordinate b_Bus_isCoordinate 2 (some .boolean) :: gtb
abbrev b_Bus_toEighths : ByteArray := prog_1_method_28_code
def y_Bus_toEighths : MethodName := ⟨"RobotBus", "toEighths", "(D)I"⟩
abbrev w_Bus_toEighths : List Cond := Cond.code y_Bus_toEighths b_Bus_toEighths 2 (some .int) :: gtb
abbrev b_Frm_isBehindLast : ByteArray := prog_4_method_2_code
def y_Frm_isBehindLast : MethodName := ⟨"RobotBus$Frame", "isBehindLast", "(I)Z"⟩
abbrev w_Frm_isBehindLast : List Cond := Cond.code y_Frm_isBehindLast b_Frm_isBehindLast 2 (some .boolean) :: gtb
abbrev b_Frm_append : ByteArray := prog_4_method_3_code
def y_Frm_append : MethodName := ⟨"RobotBus$Frame", "append", "(IIII)V"⟩
abbrev w_Frm_append : List Cond := Cond.code y_Frm_append b_Frm_append 5 none :: gtb
abbrev b_Frm_dropFirst : ByteArray := prog_4_method_4_code
def y_Frm_dropFirst : MethodName := ⟨"RobotBus$Frame", "dropFirst", "()V"⟩
abbrev w_Frm_dropFirst : List Cond := Cond.code y_Frm_dropFirst b_Frm_dropFirst 1 none :: gtb
abbrev b_Bus_locate : ByteArray := prog_1_method_19_code
def y_Bus_locate : MethodName := ⟨"RobotBus", "locate", "(IIDD)D"⟩
abbrev w_Bus_locate : List Cond := Cond.code y_Bus_locate b_Bus_locate 7 (some .double) :: gtb
abbrev b_Bus_liftToRoot : ByteArray := prog_1_method_36_code
def y_Bus_liftToRoot : MethodName := ⟨"RobotBus", "liftToRoot", "(II)Z"⟩
abbrev w_Bus_liftToRoot : List Cond := Cond.code y_Bus_liftToRoot b_Bus_liftToRoot 6 (some .boolean) :: gtb
abbrev b_Frm_indexAt : ByteArray := prog_4_method_5_code
def y_Frm_indexAt : MethodName := ⟨"RobotBus$Frame", "indexAt", "(I)I"⟩
abbrev w_Frm_indexAt : List Cond := Cond.code y_Frm_indexAt b_Frm_indexAt 4 (some .int) :: gtb
abbrev b_Pnt_lift : ByteArray := prog_6_method_2_code
def y_Pnt_lift : MethodName := ⟨"RobotBus$Point", "lift", "(LRobotBus$Frame;II)V"⟩
abbrev w_Pnt_lift : List Cond := Cond.code y_Pnt_lift b_Pnt_lift 4 none :: gtb
abbrev b_Pnt_turnBy : ByteArray := prog_6_method_3_code
def y_Pnt_turnBy : MethodName := ⟨"RobotBus$Point", "turnBy", "(I)V"⟩
abbrev w_Pnt_turnBy : List Cond := Cond.code y_Pnt_turnBy b_Pnt_turnBy 4 none :: gtb
abbrev b_Frm_between : ByteArray := prog_4_method_6_code
def y_Frm_between : MethodName := ⟨"RobotBus$Frame", "between", "([III)I"⟩
abbrev w_Frm_between : List Cond := Cond.code y_Frm_between b_Frm_between 7 (some .int) :: gtb
abbrev b_Math_floorDiv : ByteArray := prog_16_method_49_code
def y_Math_floorDiv : MethodName := ⟨"java/lang/Math", "floorDiv", "(JJ)J"⟩
abbrev w_Math_floorDiv : List Cond := Cond.code y_Math_floorDiv b_Math_floorDiv 6 (some .long) :: gtb
abbrev b_Bus_count : ByteArray := prog_1_method_21_code
def y_Bus_count : MethodName := ⟨"RobotBus", "count", "(I)I"⟩
abbrev w_Bus_count : List Cond := Cond.code y_Bus_count b_Bus_count 2 (some .int) :: gtb
abbrev b_Mdl_init : ByteArray := prog_11_method_1_code
def y_Mdl_init : MethodName := ⟨"RobotBusModel", "<init>", "()V"⟩
abbrev w_Mdl_init : List Cond := Cond.code y_Mdl_init b_Mdl_init 2 none :: gtb
abbrev b_Mdl_thrown : ByteArray := prog_11_method_2_code
def y_Mdl_thrown : MethodName := ⟨"RobotBusModel", "thrown", "()I"⟩
abbrev w_Mdl_thrown : List Cond := Cond.code y_Mdl_thrown b_Mdl_thrown 1 (some .int) :: gtb
abbrev b_Mdl_join : ByteArray := prog_11_method_6_code
def y_Mdl_join : MethodName := ⟨"RobotBusModel", "join", "(I)I"⟩
abbrev w_Mdl_join : List Cond := Cond.code y_Mdl_join b_Mdl_join 3 (some .int) :: gtb
abbrev b_Mdl_in : ByteArray := prog_11_method_4_code
def y_Mdl_in : MethodName := ⟨"RobotBusModel", "in", "(III)Z"⟩
abbrev w_Mdl_in : List Cond := Cond.code y_Mdl_in b_Mdl_in 3 (some .boolean) :: gtb
abbrev b_Mdl_raise : ByteArray := prog_11_method_3_code
def y_Mdl_raise : MethodName := ⟨"RobotBusModel", "raise", "(I)I"⟩
abbrev w_Mdl_raise : List Cond := Cond.code y_Mdl_raise b_Mdl_raise 2 (some .int) :: gtb
abbrev b_Mdl_leave : ByteArray := prog_11_method_7_code
def y_Mdl_leave : MethodName := ⟨"RobotBusModel", "leave", "(I)I"⟩
abbrev w_Mdl_leave : List Cond := Cond.code y_Mdl_leave b_Mdl_leave 4 (some .int) :: gtb
abbrev b_Mdl_noNode : ByteArray := prog_11_method_5_code
def y_Mdl_noNode : MethodName := ⟨"RobotBusModel", "noNode", "(I)Z"⟩
abbrev w_Mdl_noNode : List Cond := Cond.code y_Mdl_noNode b_Mdl_noNode 2 (some .boolean) :: gtb
abbrev b_Mdl_latch : ByteArray := prog_11_method_8_code
def y_Mdl_latch : MethodName := ⟨"RobotBusModel", "latch", "(IZ)I"⟩
abbrev w_Mdl_latch : List Cond := Cond.code y_Mdl_latch b_Mdl_latch 4 (some .int) :: gtb
abbrev b_Mdl_subscribe : ByteArray := prog_11_method_12_code
def y_Mdl_subscribe : MethodName := ⟨"RobotBusModel", "subscribe", "(III)I"⟩
abbrev w_Mdl_subscribe : List Cond := Cond.code y_Mdl_subscribe b_Mdl_subscribe 6 (some .int) :: gtb
abbrev b_Mdl_put : ByteArray := prog_11_method_10_code
def y_Mdl_put : MethodName := ⟨"RobotBusModel", "put", "(IIII)V"⟩
abbrev w_Mdl_put : List Cond := Cond.code y_Mdl_put b_Mdl_put 6 none :: gtb
abbrev b_Mdl_shift : ByteArray := prog_11_method_9_code
def y_Mdl_shift : MethodName := ⟨"RobotBusModel", "shift", "(I)V"⟩
abbrev w_Mdl_shift : List Cond := Cond.code y_Mdl_shift b_Mdl_shift 3 none :: gtb
abbrev b_Mdl_unsubscribe : ByteArray := prog_11_method_13_code
def y_Mdl_unsubscribe : MethodName := ⟨"RobotBusModel", "unsubscribe", "(II)I"⟩
abbrev w_Mdl_unsubscribe : List Cond := Cond.code y_Mdl_unsubscribe b_Mdl_unsubscribe 5 (some .int) :: gtb
abbrev b_Mdl_publish : ByteArray := prog_11_method_14_code
def y_Mdl_publish : MethodName := ⟨"RobotBusModel", "publish", "(III)I"⟩
abbrev w_Mdl_publish : List Cond := Cond.code y_Mdl_publish b_Mdl_publish 4 (some .int) :: gtb
abbrev b_Mdl_send : ByteArray := prog_11_method_11_code
def y_Mdl_send : MethodName := ⟨"RobotBusModel", "send", "(III)I"⟩
abbrev w_Mdl_send : List Cond := Cond.code y_Mdl_send b_Mdl_send 7 (some .int) :: gtb
abbrev b_Mdl_act : ByteArray := prog_11_method_16_code
def y_Mdl_act : MethodName := ⟨"RobotBusModel", "act", "(IIIII)I"⟩
abbrev w_Mdl_act : List Cond := Cond.code y_Mdl_act b_Mdl_act 8 (some .int) :: gtb
abbrev b_Mdl_actionFits : ByteArray := prog_11_method_15_code
def y_Mdl_actionFits : MethodName := ⟨"RobotBusModel", "actionFits", "(III)Z"⟩
abbrev w_Mdl_actionFits : List Cond := Cond.code y_Mdl_actionFits b_Mdl_actionFits 3 (some .boolean) :: gtb
abbrev b_Mdl_offer : ByteArray := prog_11_method_18_code
def y_Mdl_offer : MethodName := ⟨"RobotBusModel", "offer", "(IIIII)I"⟩
abbrev w_Mdl_offer : List Cond := Cond.code y_Mdl_offer b_Mdl_offer 7 (some .int) :: gtb
abbrev b_Mdl_serviceFits : ByteArray := prog_11_method_17_code
def y_Mdl_serviceFits : MethodName := ⟨"RobotBusModel", "serviceFits", "(IIII)Z"⟩
abbrev w_Mdl_serviceFits : List Cond := Cond.code y_Mdl_serviceFits b_Mdl_serviceFits 4 (some .boolean) :: gtb
abbrev b_Mdl_call : ByteArray := prog_11_method_20_code
def y_Mdl_call : MethodName := ⟨"RobotBusModel", "call", "(II)I"⟩
abbrev w_Mdl_call : List Cond := Cond.code y_Mdl_call b_Mdl_call 4 (some .int) :: gtb
abbrev b_Mdl_ask : ByteArray := prog_11_method_19_code
def y_Mdl_ask : MethodName := ⟨"RobotBusModel", "ask", "(II)I"⟩
abbrev w_Mdl_ask : List Cond := Cond.code y_Mdl_ask b_Mdl_ask 6 (some .int) :: gtb
abbrev b_Mdl_tick : ByteArray := prog_11_method_24_code
def y_Mdl_tick : MethodName := ⟨"RobotBusModel", "tick", "(I)I"⟩
abbrev w_Mdl_tick : List Cond := Cond.code y_Mdl_tick b_Mdl_tick 4 (some .int) :: gtb
abbrev b_Mdl_playDue : ByteArray := prog_11_method_21_code
def y_Mdl_playDue : MethodName := ⟨"RobotBusModel", "playDue", "()V"⟩
abbrev w_Mdl_playDue : List Cond := Cond.code y_Mdl_playDue b_Mdl_playDue 3 none :: gtb
abbrev b_Mdl_spin : ByteArray := prog_11_method_23_code
def y_Mdl_spin : MethodName := ⟨"RobotBusModel", "spin", "(I)V"⟩
abbrev w_Mdl_spin : List Cond := Cond.code y_Mdl_spin b_Mdl_spin 6 none :: gtb
abbrev b_Mdl_perform : ByteArray := prog_11_method_22_code
def y_Mdl_perform : MethodName := ⟨"RobotBusModel", "perform", "(III)V"⟩
abbrev w_Mdl_perform : List Cond := Cond.code y_Mdl_perform b_Mdl_perform 7 none :: gtb
abbrev b_Mdl_variable : ByteArray := prog_11_method_25_code
def y_Mdl_variable : MethodName := ⟨"RobotBusModel", "variable", "(II)I"⟩
abbrev w_Mdl_variable : List Cond := Cond.code y_Mdl_variable b_Mdl_variable 3 (some .int) :: gtb
abbrev b_Mdl_queued : ByteArray := prog_11_method_26_code
def y_Mdl_queued : MethodName := ⟨"RobotBusModel", "queued", "(IIII)I"⟩
abbrev w_Mdl_queued : List Cond := Cond.code y_Mdl_queued b_Mdl_queued 6 (some .int) :: gtb
abbrev b_Mdl_keep : ByteArray := prog_11_method_27_code
def y_Mdl_keep : MethodName := ⟨"RobotBusModel", "keep", "(IZ)I"⟩
abbrev w_Mdl_keep : List Cond := Cond.code y_Mdl_keep b_Mdl_keep 4 (some .int) :: gtb
abbrev b_Mdl_play : ByteArray := prog_11_method_28_code
def y_Mdl_play : MethodName := ⟨"RobotBusModel", "play", "(I)I"⟩
abbrev w_Mdl_play : List Cond := Cond.code y_Mdl_play b_Mdl_play 2 (some .int) :: gtb
abbrev b_Mdl_empty : ByteArray := prog_11_method_29_code
def y_Mdl_empty : MethodName := ⟨"RobotBusModel", "empty", "()I"⟩
abbrev w_Mdl_empty : List Cond := Cond.code y_Mdl_empty b_Mdl_empty 2 (some .int) :: gtb
abbrev b_Mdl_mount : ByteArray := prog_11_method_30_code
def y_Mdl_mount : MethodName := ⟨"RobotBusModel", "mount", "(II)I"⟩
abbrev w_Mdl_mount : List Cond := Cond.code y_Mdl_mount b_Mdl_mount 4 (some .int) :: gtb
abbrev b_Mdl_sample : ByteArray := prog_11_method_32_code
def y_Mdl_sample : MethodName := ⟨"RobotBusModel", "sample", "(IIDDI)I"⟩
abbrev w_Mdl_sample : List Cond := Cond.code y_Mdl_sample b_Mdl_sample 10 (some .int) :: gtb
abbrev b_Mdl_near : ByteArray := prog_11_method_31_code
def y_Mdl_near : MethodName := ⟨"RobotBusModel", "near", "(D)Z"⟩
abbrev w_Mdl_near : List Cond := Cond.code y_Mdl_near b_Mdl_near 2 (some .boolean) :: gtb
abbrev b_Mdl_locate : ByteArray := prog_11_method_35_code
def y_Mdl_locate : MethodName := ⟨"RobotBusModel", "locate", "(IIDD)D"⟩
abbrev w_Mdl_locate : List Cond := Cond.code y_Mdl_locate b_Mdl_locate 8 (some .double) :: gtb
abbrev b_Mdl_rise : ByteArray := prog_11_method_34_code
def y_Mdl_rise : MethodName := ⟨"RobotBusModel", "rise", "(II)Z"⟩
abbrev w_Mdl_rise : List Cond := Cond.code y_Mdl_rise b_Mdl_rise 14 (some .boolean) :: gtb
abbrev b_Mdl_between : ByteArray := prog_11_method_33_code
def y_Mdl_between : MethodName := ⟨"RobotBusModel", "between", "(JJJJ)J"⟩
abbrev w_Mdl_between : List Cond := Cond.code y_Mdl_between b_Mdl_between 10 (some .long) :: gtb
abbrev b_Mdl_lastY : ByteArray := prog_11_method_36_code
def y_Mdl_lastY : MethodName := ⟨"RobotBusModel", "lastY", "()D"⟩
abbrev w_Mdl_lastY : List Cond := Cond.code y_Mdl_lastY b_Mdl_lastY 1 (some .double) :: gtb
abbrev b_Mdl_count : ByteArray := prog_11_method_37_code
def y_Mdl_count : MethodName := ⟨"RobotBusModel", "count", "(I)I"⟩
abbrev w_Mdl_count : List Cond := Cond.code y_Mdl_count b_Mdl_count 2 (some .int) :: gtb
abbrev b_Law_join : ByteArray := method_3_code
def y_Law_join : MethodName := ⟨"RobotBusLaw", "join", "(LRobotBus;I[J)I"⟩
abbrev b_Law_leave : ByteArray := method_4_code
def y_Law_leave : MethodName := ⟨"RobotBusLaw", "leave", "(LRobotBus;I[J)I"⟩
abbrev b_Law_latch : ByteArray := method_5_code
def y_Law_latch : MethodName := ⟨"RobotBusLaw", "latch", "(LRobotBus;IZ[J)I"⟩
abbrev b_Law_subscribe : ByteArray := method_6_code
def y_Law_subscribe : MethodName := ⟨"RobotBusLaw", "subscribe", "(LRobotBus;III[J)I"⟩
abbrev b_Law_unsubscribe : ByteArray := method_7_code
def y_Law_unsubscribe : MethodName := ⟨"RobotBusLaw", "unsubscribe", "(LRobotBus;II[J)I"⟩
abbrev b_Law_publish : ByteArray := method_8_code
def y_Law_publish : MethodName := ⟨"RobotBusLaw", "publish", "(LRobotBus;III[J)I"⟩
abbrev b_Law_act : ByteArray := method_9_code
def y_Law_act : MethodName := ⟨"RobotBusLaw", "act", "(LRobotBus;IIIII[J)I"⟩
abbrev b_Law_offer : ByteArray := method_10_code
def y_Law_offer : MethodName := ⟨"RobotBusLaw", "offer", "(LRobotBus;IIIII[J)I"⟩
abbrev b_Law_call : ByteArray := method_11_code
def y_Law_call : MethodName := ⟨"RobotBusLaw", "call", "(LRobotBus;II[J)I"⟩
abbrev b_Law_tick : ByteArray := method_12_code
def y_Law_tick : MethodName := ⟨"RobotBusLaw", "tick", "(LRobotBus;I[J)I"⟩
abbrev b_Law_variable : ByteArray := method_13_code
def y_Law_variable : MethodName := ⟨"RobotBusLaw", "variable", "(LRobotBus;II[J)I"⟩
abbrev b_Law_queued : ByteArray := method_14_code
def y_Law_queued : MethodName := ⟨"RobotBusLaw", "queued", "(LRobotBus;IIII[J)I"⟩
abbrev b_Law_keep : ByteArray := method_15_code
def y_Law_keep : MethodName := ⟨"RobotBusLaw", "keep", "(LRobotBus;IZ[J)I"⟩
abbrev b_Law_play : ByteArray := method_16_code
def y_Law_play : MethodName := ⟨"RobotBusLaw", "play", "(LRobotBus;I[J)I"⟩
abbrev b_Law_empty : ByteArray := method_17_code
def y_Law_empty : MethodName := ⟨"RobotBusLaw", "empty", "(LRobotBus;[J)I"⟩
abbrev b_Law_mount : ByteArray := method_18_code
def y_Law_mount : MethodName := ⟨"RobotBusLaw", "mount", "(LRobotBus;II[J)I"⟩
abbrev b_Law_sample : ByteArray := method_19_code
def y_Law_sample : MethodName := ⟨"RobotBusLaw", "sample", "(LRobotBus;IIDDI[J)I"⟩
abbrev b_Law_locate : ByteArray := method_20_code
def y_Law_locate : MethodName := ⟨"RobotBusLaw", "locate", "(LRobotBus;IIDD[D)I"⟩
abbrev b_Law_count : ByteArray := method_21_code
def y_Law_count : MethodName := ⟨"RobotBusLaw", "count", "(LRobotBus;I[J)I"⟩
theorem tw_0 : (Cond.initialized "RobotBusLaw") ∈ gtb := gtb_of (tb_1 (List.mem_of_getElem? (i := 0) (by decide +kernel))) (by decide +kernel)
theorem tw_1 : (Cond.initialized "RobotBus") ∈ gtb := gtb_of (tb_1 (List.mem_of_getElem? (i := 1) (by decide +kernel))) (by decide +kernel)
theorem tw_2 : (Cond.initialized "RobotBus$Bag") ∈ gtb := gtb_of (tb_1 (List.mem_of_getElem? (i := 2) (by decide +kernel))) (by decide +kernel)
theorem tw_3 : (Cond.initialized "RobotBus$Point") ∈ gtb := gtb_of (tb_1 (List.mem_of_getElem? (i := 3) (by decide +kernel))) (by decide +kernel)
theorem tw_4 : (Cond.initialized "RobotBus$Node") ∈ gtb := gtb_of (tb_1 (List.mem_of_getElem? (i := 4) (by decide +kernel))) (by decide +kernel)
theorem tw_5 : (Cond.initialized "RobotBus$Queue") ∈ gtb := gtb_of (tb_1 (List.mem_of_getElem? (i := 5) (by decide +kernel))) (by decide +kernel)
theorem tw_6 : (Cond.initialized "RobotBus$Action") ∈ gtb := gtb_of (tb_1 (List.mem_of_getElem? (i := 6) (by decide +kernel))) (by decide +kernel)
theorem tw_7 : (Cond.initialized "RobotBus$Topic") ∈ gtb := gtb_of (tb_1 (List.mem_of_getElem? (i := 7) (by decide +kernel))) (by decide +kernel)
theorem tw_8 : (Cond.initialized "RobotBus$Service") ∈ gtb := gtb_of (tb_1 (List.mem_of_getElem? (i := 8) (by decide +kernel))) (by decide +kernel)
theorem tw_9 : (Cond.initialized "RobotBus$Frame") ∈ gtb := gtb_of (tb_1 (List.mem_of_getElem? (i := 9) (by decide +kernel))) (by decide +kernel)
theorem tw_10 : (Cond.initialized "RobotBusModel") ∈ gtb := gtb_of (tb_1 (List.mem_of_getElem? (i := 10) (by decide +kernel))) (by decide +kernel)
theorem tw_11 : (Cond.initialized "java/lang/Throwable") ∈ gtb := gtb_of (tb_1 (List.mem_of_getElem? (i := 11) (by decide +kernel))) (by decide +kernel)
theorem tw_12 : (Cond.initialized "java/lang/Exception") ∈ gtb := gtb_of (tb_1 (List.mem_of_getElem? (i := 12) (by decide +kernel))) (by decide +kernel)
theorem tw_13 : (Cond.initialized "java/lang/RuntimeException") ∈ gtb := gtb_of (tb_1 (List.mem_of_getElem? (i := 13) (by decide +kernel))) (by decide +kernel)
theorem tw_14 : (Cond.initialized "java/lang/IllegalArgumentException") ∈ gtb := gtb_of (tb_1 (List.mem_of_getElem? (i := 14) (by decide +kernel))) (by decide +kernel)
theorem tw_15 : (Cond.initialized "java/lang/IllegalStateException") ∈ gtb := gtb_of (tb_1 (List.mem_of_getElem? (i := 15) (by decide +kernel))) (by decide +kernel)
theorem tw_16 : (Cond.initialized "java/util/NoSuchElementException") ∈ gtb := gtb_of (tb_1 (List.mem_of_getElem? (i := 16) (by decide +kernel))) (by decide +kernel)
theorem tw_17 : (Cond.initialized "java/lang/Math") ∈ gtb := gtb_of (tb_1 (List.mem_of_getElem? (i := 17) (by decide +kernel))) (by decide +kernel)
theorem tw_18 : (Cond.initialized "java/lang/System") ∈ gtb := gtb_of (tb_1 (List.mem_of_getElem? (i := 18) (by decide +kernel))) (by decide +kernel)
theorem tw_19 : (Cond.initialized "java/lang/ArithmeticException") ∈ gtb := gtb_of (tb_1 (List.mem_of_getElem? (i := 19) (by decide +kernel))) (by decide +kernel)
theorem tw_20 : (Cond.initialized "java/lang/UnsupportedOperationException") ∈ gtb := gtb_of (tb_1 (List.mem_of_getElem? (i := 20) (by decide +kernel))) (by decide +kernel)
theorem tw_21 : (Cond.classLink "RobotBusLaw" 8 "RobotBus") ∈ gtb := gtb_of (tb_1 (List.mem_of_getElem? (i := 21) (by decide +kernel))) (by decide +kernel)
theorem tw_22 : (Cond.instantiable "RobotBus" 13) ∈ gtb := gtb_of (tb_1 (List.mem_of_getElem? (i := 22) (by decide +kernel))) (by decide +kernel)
theorem tw_23 : (Cond.methodLink "RobotBusLaw" 85 y_Bus_init) ∈ gtb := gtb_of (tb_1 (List.mem_of_getElem? (i := 23) (by decide +kernel))) (by decide +kernel)
theorem tw_24 : (Cond.instanceMethod y_Bus_init) ∈ gtb := gtb_of (tb_1 (List.mem_of_getElem? (i := 24) (by decide +kernel))) (by decide +kernel)
theorem tw_25 : (Cond.code y_Bus_init prog_1_method_1_code 2 (Option.none : Option Jvm.ClassFile.FieldType)) ∈ gtb := gtb_of (tb_1 (List.mem_of_getElem? (i := 25) rfl)) rfl
theorem tw_26 : (Cond.methodLink "RobotBus" 1 ({ cls := "java/lang/Object", name := "<init>", desc := "()V" } : MethodName)) ∈ gtb := gtb_of (tb_1 (List.mem_of_getElem? (i := 26) (by decide +kernel))) (by decide +kernel)
theorem tw_27 : (Cond.instanceMethod ({ cls := "java/lang/Object", name := "<init>", desc := "()V" } : MethodName)) ∈ gtb := gtb_of (tb_1 (List.mem_of_getElem? (i := 27) (by decide +kernel))) (by decide +kernel)
theorem tw_28 : (Cond.code ({ cls := "java/lang/Object", name := "<init>", desc := "()V" } : MethodName) object_method_1_code 1 (Option.none : Option Jvm.ClassFile.FieldType)) ∈ gtb := gtb_of (tb_1 (List.mem_of_getElem? (i := 28) rfl)) rfl
theorem tw_29 : (Cond.classLink "RobotBus" 9 "RobotBus$Node") ∈ gtb := gtb_of (tb_1 (List.mem_of_getElem? (i := 29) (by decide +kernel))) (by decide +kernel)
theorem tw_31 : (Cond.classLink "RobotBus" 15 "RobotBus$Topic") ∈ gtb := gtb_of (tb_1 (List.mem_of_getElem? (i := 31) (by decide +kernel))) (by decide +kernel)
theorem tw_33 : (Cond.classLink "RobotBus" 21 "RobotBus$Service") ∈ gtb := gtb_of (tb_1 (List.mem_of_getElem? (i := 33) (by decide +kernel))) (by decide +kernel)
theorem tw_35 : (Cond.classLink "RobotBus" 27 "RobotBus$Frame") ∈ gtb := gtb_of (tb_1 (List.mem_of_getElem? (i := 35) (by decide +kernel))) (by decide +kernel)
theorem tw_37 : (Cond.classLink "RobotBus" 33 "RobotBus$Bag") ∈ gtb := gtb_of (tb_1 (List.mem_of_getElem? (i := 37) (by decide +kernel))) (by decide +kernel)
theorem tw_38 : (Cond.instantiable "RobotBus$Bag" 8) ∈ gtb := gtb_of (tb_1 (List.mem_of_getElem? (i := 38) (by decide +kernel))) (by decide +kernel)
theorem tw_40 : (Cond.instanceMethod y_Bag_init) ∈ gtb := gtb_of (tb_1 (List.mem_of_getElem? (i := 40) (by decide +kernel))) (by decide +kernel)
theorem tw_41 : (Cond.code y_Bag_init prog_3_method_1_code 1 (Option.none : Option Jvm.ClassFile.FieldType)) ∈ gtb := gtb_of (tb_1 (List.mem_of_getElem? (i := 41) rfl)) rfl
theorem tw_42 : (Cond.methodLink "RobotBus$Bag" 3 ({ cls := "java/lang/Object", name := "<init>", desc := "()V" } : MethodName)) ∈ gtb := gtb_of (tb_1 (List.mem_of_getElem? (i := 42) (by decide +kernel))) (by decide +kernel)
theorem tw_43 : (Cond.fieldLink "RobotBus$Bag" 9 "RobotBus$Bag" "times" "[I") ∈ gtb := gtb_of (tb_1 (List.mem_of_getElem? (i := 43) (by decide +kernel))) (by decide +kernel)
theorem tw_44 : (Cond.fieldLink "RobotBus$Bag" 15 "RobotBus$Bag" "topics" "[I") ∈ gtb := gtb_of (tb_1 (List.mem_of_getElem? (i := 44) (by decide +kernel))) (by decide +kernel)
theorem tw_45 : (Cond.fieldLink "RobotBus" 315 "RobotBus$Bag" "topics" "[I") ∈ gtb := gtb_of (tb_1 (List.mem_of_getElem? (i := 45) (by decide +kernel))) (by decide +kernel)
theorem tw_46 : (Cond.fieldLink "RobotBus$Bag" 18 "RobotBus$Bag" "values" "[I") ∈ gtb := gtb_of (tb_1 (List.mem_of_getElem? (i := 46) (by decide +kernel))) (by decide +kernel)
theorem tw_47 : (Cond.fieldLink "RobotBus" 317 "RobotBus$Bag" "values" "[I") ∈ gtb := gtb_of (tb_1 (List.mem_of_getElem? (i := 47) (by decide +kernel))) (by decide +kernel)
theorem tw_48 : (Cond.fieldLink "RobotBus$Bag" 21 "RobotBus$Bag" "size" "I") ∈ gtb := gtb_of (tb_1 (List.mem_of_getElem? (i := 48) (by decide +kernel))) (by decide +kernel)
theorem tw_49 : (Cond.fieldLink "RobotBus" 238 "RobotBus$Bag" "size" "I") ∈ gtb := gtb_of (tb_1 (List.mem_of_getElem? (i := 49) (by decide +kernel))) (by decide +kernel)
theorem tw_50 : (Cond.fieldLink "RobotBus$Bag" 25 "RobotBus$Bag" "next" "I") ∈ gtb := gtb_of (tb_1 (List.mem_of_getElem? (i := 50) (by decide +kernel))) (by decide +kernel)
theorem tw_51 : (Cond.fieldLink "RobotBus$Bag" 28 "RobotBus$Bag" "end" "I") ∈ gtb := gtb_of (tb_1 (List.mem_of_getElem? (i := 51) (by decide +kernel))) (by decide +kernel)
theorem tw_52 : (Cond.fieldLink "RobotBus$Bag" 31 "RobotBus$Bag" "startClock" "I") ∈ gtb := gtb_of (tb_1 (List.mem_of_getElem? (i := 52) (by decide +kernel))) (by decide +kernel)
theorem tw_53 : (Cond.fieldLink "RobotBus$Bag" 34 "RobotBus$Bag" "pace" "I") ∈ gtb := gtb_of (tb_1 (List.mem_of_getElem? (i := 53) (by decide +kernel))) (by decide +kernel)
theorem tw_54 : (Cond.laysFinal "RobotBus$Bag" "RobotBus$Bag" "times" "[I") ∈ gtb := gtb_of (tb_1 (List.mem_of_getElem? (i := 54) (by decide +kernel))) (by decide +kernel)
theorem tw_56 : (Cond.laysFinal "RobotBus$Bag" "RobotBus$Bag" "topics" "[I") ∈ gtb := gtb_of (tb_1 (List.mem_of_getElem? (i := 56) (by decide +kernel))) (by decide +kernel)
theorem tw_58 : (Cond.laysFinal "RobotBus$Bag" "RobotBus$Bag" "values" "[I") ∈ gtb := gtb_of (tb_1 (List.mem_of_getElem? (i := 58) (by decide +kernel))) (by decide +kernel)
theorem tw_60 : (Cond.lays "RobotBus$Bag" "RobotBus$Bag" "size" "I") ∈ gtb := gtb_of (tb_1 (List.mem_of_getElem? (i := 60) (by decide +kernel))) (by decide +kernel)
theorem tw_62 : (Cond.lays "RobotBus$Bag" "RobotBus$Bag" "next" "I") ∈ gtb := gtb_of (tb_1 (List.mem_of_getElem? (i := 62) (by decide +kernel))) (by decide +kernel)
theorem tw_64 : (Cond.lays "RobotBus$Bag" "RobotBus$Bag" "end" "I") ∈ gtb := gtb_of (tb_1 (List.mem_of_getElem? (i := 64) (by decide +kernel))) (by decide +kernel)
theorem tw_66 : (Cond.lays "RobotBus$Bag" "RobotBus$Bag" "startClock" "I") ∈ gtb := gtb_of (tb_1 (List.mem_of_getElem? (i := 66) (by decide +kernel))) (by decide +kernel)
theorem tw_68 : (Cond.lays "RobotBus$Bag" "RobotBus$Bag" "pace" "I") ∈ gtb := gtb_of (tb_1 (List.mem_of_getElem? (i := 68) (by decide +kernel))) (by decide +kernel)
theorem tw_71 : (Cond.arrayClass FieldType.int) ∈ gtb := gtb_of (tb_1 (List.mem_of_getElem? (i := 71) (by decide +kernel))) (by decide +kernel)
theorem tw_72 : (Cond.classLink "RobotBus" 40 "RobotBus$Point") ∈ gtb := gtb_of (tb_1 (List.mem_of_getElem? (i := 72) (by decide +kernel))) (by decide +kernel)
theorem tw_73 : (Cond.instantiable "RobotBus$Point" 2) ∈ gtb := gtb_of (tb_1 (List.mem_of_getElem? (i := 73) (by decide +kernel))) (by decide +kernel)
theorem tw_75 : (Cond.instanceMethod y_Pnt_init) ∈ gtb := gtb_of (tb_1 (List.mem_of_getElem? (i := 75) (by decide +kernel))) (by decide +kernel)
theorem tw_76 : (Cond.code y_Pnt_init prog_6_method_1_code 1 (Option.none : Option Jvm.ClassFile.FieldType)) ∈ gtb := gtb_of (tb_1 (List.mem_of_getElem? (i := 76) rfl)) rfl
theorem tw_77 : (Cond.methodLink "RobotBus$Point" 1 ({ cls := "java/lang/Object", name := "<init>", desc := "()V" } : MethodName)) ∈ gtb := gtb_of (tb_1 (List.mem_of_getElem? (i := 77) (by decide +kernel))) (by decide +kernel)
theorem tw_78 : (Cond.fieldLink "RobotBus$Point" 7 "RobotBus$Point" "x" "I") ∈ gtb := gtb_of (tb_1 (List.mem_of_getElem? (i := 78) (by decide +kernel))) (by decide +kernel)
theorem tw_79 : (Cond.fieldLink "RobotBus" 284 "RobotBus$Point" "x" "I") ∈ gtb := gtb_of (tb_1 (List.mem_of_getElem? (i := 79) (by decide +kernel))) (by decide +kernel)
theorem tw_80 : (Cond.fieldLink "RobotBus$Point" 13 "RobotBus$Point" "y" "I") ∈ gtb := gtb_of (tb_1 (List.mem_of_getElem? (i := 80) (by decide +kernel))) (by decide +kernel)
theorem tw_81 : (Cond.fieldLink "RobotBus" 287 "RobotBus$Point" "y" "I") ∈ gtb := gtb_of (tb_1 (List.mem_of_getElem? (i := 81) (by decide +kernel))) (by decide +kernel)
theorem tw_82 : (Cond.lays "RobotBus$Point" "RobotBus$Point" "x" "I") ∈ gtb := gtb_of (tb_1 (List.mem_of_getElem? (i := 82) (by decide +kernel))) (by decide +kernel)
theorem tw_84 : (Cond.lays "RobotBus$Point" "RobotBus$Point" "y" "I") ∈ gtb := gtb_of (tb_1 (List.mem_of_getElem? (i := 84) (by decide +kernel))) (by decide +kernel)
theorem tw_87 : (Cond.instantiable "RobotBus$Node" 5) ∈ gtb := gtb_of (tb_1 (List.mem_of_getElem? (i := 87) (by decide +kernel))) (by decide +kernel)
theorem tw_88 : (Cond.methodLink "RobotBus" 70 y_Nod_init) ∈ gtb := gtb_of (tb_1 (List.mem_of_getElem? (i := 88) (by decide +kernel))) (by decide +kernel)
theorem tw_89 : (Cond.instanceMethod y_Nod_init) ∈ gtb := gtb_of (tb_1 (List.mem_of_getElem? (i := 89) (by decide +kernel))) (by decide +kernel)
theorem tw_90 : (Cond.code y_Nod_init prog_5_method_1_code 2 (Option.none : Option Jvm.ClassFile.FieldType)) ∈ gtb := gtb_of (tb_1 (List.mem_of_getElem? (i := 90) rfl)) rfl
theorem tw_91 : (Cond.methodLink "RobotBus$Node" 3 ({ cls := "java/lang/Object", name := "<init>", desc := "()V" } : MethodName)) ∈ gtb := gtb_of (tb_1 (List.mem_of_getElem? (i := 91) (by decide +kernel))) (by decide +kernel)
theorem tw_92 : (Cond.classLink "RobotBus$Node" 15 "RobotBus$Queue") ∈ gtb := gtb_of (tb_1 (List.mem_of_getElem? (i := 92) (by decide +kernel))) (by decide +kernel)
theorem tw_94 : (Cond.classLink "RobotBus$Node" 21 "RobotBus$Action") ∈ gtb := gtb_of (tb_1 (List.mem_of_getElem? (i := 94) (by decide +kernel))) (by decide +kernel)
theorem tw_96 : (Cond.instantiable "RobotBus$Queue" 3) ∈ gtb := gtb_of (tb_1 (List.mem_of_getElem? (i := 96) (by decide +kernel))) (by decide +kernel)
theorem tw_98 : (Cond.instanceMethod y_Que_init) ∈ gtb := gtb_of (tb_1 (List.mem_of_getElem? (i := 98) (by decide +kernel))) (by decide +kernel)
theorem tw_99 : (Cond.code y_Que_init prog_7_method_1_code 1 (Option.none : Option Jvm.ClassFile.FieldType)) ∈ gtb := gtb_of (tb_1 (List.mem_of_getElem? (i := 99) rfl)) rfl
theorem tw_100 : (Cond.methodLink "RobotBus$Queue" 3 ({ cls := "java/lang/Object", name := "<init>", desc := "()V" } : MethodName)) ∈ gtb := gtb_of (tb_1 (List.mem_of_getElem? (i := 100) (by decide +kernel))) (by decide +kernel)
theorem tw_101 : (Cond.fieldLink "RobotBus$Queue" 11 "RobotBus$Queue" "cells" "[I") ∈ gtb := gtb_of (tb_1 (List.mem_of_getElem? (i := 101) (by decide +kernel))) (by decide +kernel)
theorem tw_102 : (Cond.fieldLink "RobotBus$Queue" 15 "RobotBus$Queue" "depth" "I") ∈ gtb := gtb_of (tb_1 (List.mem_of_getElem? (i := 102) (by decide +kernel))) (by decide +kernel)
theorem tw_103 : (Cond.fieldLink "RobotBus$Queue" 19 "RobotBus$Queue" "size" "I") ∈ gtb := gtb_of (tb_1 (List.mem_of_getElem? (i := 103) (by decide +kernel))) (by decide +kernel)
theorem tw_104 : (Cond.fieldLink "RobotBus$Node" 44 "RobotBus$Queue" "size" "I") ∈ gtb := gtb_of (tb_1 (List.mem_of_getElem? (i := 104) (by decide +kernel))) (by decide +kernel)
theorem tw_105 : (Cond.fieldLink "RobotBus" 151 "RobotBus$Queue" "size" "I") ∈ gtb := gtb_of (tb_1 (List.mem_of_getElem? (i := 105) (by decide +kernel))) (by decide +kernel)
theorem tw_106 : (Cond.laysFinal "RobotBus$Queue" "RobotBus$Queue" "cells" "[I") ∈ gtb := gtb_of (tb_1 (List.mem_of_getElem? (i := 106) (by decide +kernel))) (by decide +kernel)
theorem tw_108 : (Cond.lays "RobotBus$Queue" "RobotBus$Queue" "depth" "I") ∈ gtb := gtb_of (tb_1 (List.mem_of_getElem? (i := 108) (by decide +kernel))) (by decide +kernel)
theorem tw_110 : (Cond.lays "RobotBus$Queue" "RobotBus$Queue" "size" "I") ∈ gtb := gtb_of (tb_1 (List.mem_of_getElem? (i := 110) (by decide +kernel))) (by decide +kernel)
theorem tw_113 : (Cond.instantiable "RobotBus$Action" 3) ∈ gtb := gtb_of (tb_1 (List.mem_of_getElem? (i := 113) (by decide +kernel))) (by decide +kernel)
theorem tw_115 : (Cond.instanceMethod y_Act_init) ∈ gtb := gtb_of (tb_1 (List.mem_of_getElem? (i := 115) (by decide +kernel))) (by decide +kernel)
theorem tw_116 : (Cond.code y_Act_init prog_2_method_1_code 1 (Option.none : Option Jvm.ClassFile.FieldType)) ∈ gtb := gtb_of (tb_1 (List.mem_of_getElem? (i := 116) rfl)) rfl
theorem tw_117 : (Cond.methodLink "RobotBus$Action" 3 ({ cls := "java/lang/Object", name := "<init>", desc := "()V" } : MethodName)) ∈ gtb := gtb_of (tb_1 (List.mem_of_getElem? (i := 117) (by decide +kernel))) (by decide +kernel)
theorem tw_118 : (Cond.fieldLink "RobotBus$Action" 9 "RobotBus$Action" "kind" "I") ∈ gtb := gtb_of (tb_1 (List.mem_of_getElem? (i := 118) (by decide +kernel))) (by decide +kernel)
theorem tw_119 : (Cond.fieldLink "RobotBus$Node" 41 "RobotBus$Action" "kind" "I") ∈ gtb := gtb_of (tb_1 (List.mem_of_getElem? (i := 119) (by decide +kernel))) (by decide +kernel)
theorem tw_120 : (Cond.fieldLink "RobotBus" 171 "RobotBus$Action" "kind" "I") ∈ gtb := gtb_of (tb_1 (List.mem_of_getElem? (i := 120) (by decide +kernel))) (by decide +kernel)
theorem tw_121 : (Cond.fieldLink "RobotBus$Action" 15 "RobotBus$Action" "a" "I") ∈ gtb := gtb_of (tb_1 (List.mem_of_getElem? (i := 121) (by decide +kernel))) (by decide +kernel)
theorem tw_122 : (Cond.fieldLink "RobotBus" 176 "RobotBus$Action" "a" "I") ∈ gtb := gtb_of (tb_1 (List.mem_of_getElem? (i := 122) (by decide +kernel))) (by decide +kernel)
theorem tw_123 : (Cond.fieldLink "RobotBus$Action" 18 "RobotBus$Action" "b" "I") ∈ gtb := gtb_of (tb_1 (List.mem_of_getElem? (i := 123) (by decide +kernel))) (by decide +kernel)
theorem tw_124 : (Cond.fieldLink "RobotBus" 179 "RobotBus$Action" "b" "I") ∈ gtb := gtb_of (tb_1 (List.mem_of_getElem? (i := 124) (by decide +kernel))) (by decide +kernel)
theorem tw_125 : (Cond.lays "RobotBus$Action" "RobotBus$Action" "kind" "I") ∈ gtb := gtb_of (tb_1 (List.mem_of_getElem? (i := 125) (by decide +kernel))) (by decide +kernel)
theorem tw_127 : (Cond.lays "RobotBus$Action" "RobotBus$Action" "a" "I") ∈ gtb := gtb_of (tb_1 (List.mem_of_getElem? (i := 127) (by decide +kernel))) (by decide +kernel)
theorem tw_129 : (Cond.lays "RobotBus$Action" "RobotBus$Action" "b" "I") ∈ gtb := gtb_of (tb_1 (List.mem_of_getElem? (i := 129) (by decide +kernel))) (by decide +kernel)
theorem tw_132 : (Cond.fieldLink "RobotBus$Node" 9 "RobotBus$Node" "variables" "[I") ∈ gtb := gtb_of (tb_1 (List.mem_of_getElem? (i := 132) (by decide +kernel))) (by decide +kernel)
theorem tw_133 : (Cond.fieldLink "RobotBus" 215 "RobotBus$Node" "variables" "[I") ∈ gtb := gtb_of (tb_1 (List.mem_of_getElem? (i := 133) (by decide +kernel))) (by decide +kernel)
theorem tw_134 : (Cond.fieldLink "RobotBus$Node" 17 "RobotBus$Node" "queues" "[LRobotBus$Queue;") ∈ gtb := gtb_of (tb_1 (List.mem_of_getElem? (i := 134) (by decide +kernel))) (by decide +kernel)
theorem tw_135 : (Cond.fieldLink "RobotBus" 121 "RobotBus$Node" "queues" "[LRobotBus$Queue;") ∈ gtb := gtb_of (tb_1 (List.mem_of_getElem? (i := 135) (by decide +kernel))) (by decide +kernel)
theorem tw_136 : (Cond.fieldLink "RobotBus$Node" 23 "RobotBus$Node" "actions" "[LRobotBus$Action;") ∈ gtb := gtb_of (tb_1 (List.mem_of_getElem? (i := 136) (by decide +kernel))) (by decide +kernel)
theorem tw_137 : (Cond.fieldLink "RobotBus" 167 "RobotBus$Node" "actions" "[LRobotBus$Action;") ∈ gtb := gtb_of (tb_1 (List.mem_of_getElem? (i := 137) (by decide +kernel))) (by decide +kernel)
theorem tw_138 : (Cond.fieldLink "RobotBus$Node" 27 "RobotBus$Node" "present" "Z") ∈ gtb := gtb_of (tb_1 (List.mem_of_getElem? (i := 138) (by decide +kernel))) (by decide +kernel)
theorem tw_139 : (Cond.fieldLink "RobotBus" 85 "RobotBus$Node" "present" "Z") ∈ gtb := gtb_of (tb_1 (List.mem_of_getElem? (i := 139) (by decide +kernel))) (by decide +kernel)
theorem tw_140 : (Cond.fieldLink "RobotBus$Node" 31 "RobotBus$Node" "firstLookedAt" "I") ∈ gtb := gtb_of (tb_1 (List.mem_of_getElem? (i := 140) (by decide +kernel))) (by decide +kernel)
theorem tw_141 : (Cond.laysFinal "RobotBus$Node" "RobotBus$Node" "variables" "[I") ∈ gtb := gtb_of (tb_1 (List.mem_of_getElem? (i := 141) (by decide +kernel))) (by decide +kernel)
theorem tw_143 : (Cond.laysFinal "RobotBus$Node" "RobotBus$Node" "queues" "[LRobotBus$Queue;") ∈ gtb := gtb_of (tb_1 (List.mem_of_getElem? (i := 143) (by decide +kernel))) (by decide +kernel)
theorem tw_145 : (Cond.laysFinal "RobotBus$Node" "RobotBus$Node" "actions" "[LRobotBus$Action;") ∈ gtb := gtb_of (tb_1 (List.mem_of_getElem? (i := 145) (by decide +kernel))) (by decide +kernel)
theorem tw_147 : (Cond.lays "RobotBus$Node" "RobotBus$Node" "present" "Z") ∈ gtb := gtb_of (tb_1 (List.mem_of_getElem? (i := 147) (by decide +kernel))) (by decide +kernel)
theorem tw_149 : (Cond.lays "RobotBus$Node" "RobotBus$Node" "firstLookedAt" "I") ∈ gtb := gtb_of (tb_1 (List.mem_of_getElem? (i := 149) (by decide +kernel))) (by decide +kernel)
theorem tw_152 : (Cond.instantiable "RobotBus$Topic" 6) ∈ gtb := gtb_of (tb_1 (List.mem_of_getElem? (i := 152) (by decide +kernel))) (by decide +kernel)
theorem tw_154 : (Cond.instanceMethod y_Top_init) ∈ gtb := gtb_of (tb_1 (List.mem_of_getElem? (i := 154) (by decide +kernel))) (by decide +kernel)
theorem tw_155 : (Cond.code y_Top_init prog_9_method_1_code 1 (Option.none : Option Jvm.ClassFile.FieldType)) ∈ gtb := gtb_of (tb_1 (List.mem_of_getElem? (i := 155) rfl)) rfl
theorem tw_156 : (Cond.methodLink "RobotBus$Topic" 1 ({ cls := "java/lang/Object", name := "<init>", desc := "()V" } : MethodName)) ∈ gtb := gtb_of (tb_1 (List.mem_of_getElem? (i := 156) (by decide +kernel))) (by decide +kernel)
theorem tw_157 : (Cond.fieldLink "RobotBus$Topic" 7 "RobotBus$Topic" "latched" "Z") ∈ gtb := gtb_of (tb_1 (List.mem_of_getElem? (i := 157) (by decide +kernel))) (by decide +kernel)
theorem tw_158 : (Cond.fieldLink "RobotBus" 112 "RobotBus$Topic" "latched" "Z") ∈ gtb := gtb_of (tb_1 (List.mem_of_getElem? (i := 158) (by decide +kernel))) (by decide +kernel)
theorem tw_159 : (Cond.fieldLink "RobotBus$Topic" 13 "RobotBus$Topic" "recorded" "Z") ∈ gtb := gtb_of (tb_1 (List.mem_of_getElem? (i := 159) (by decide +kernel))) (by decide +kernel)
theorem tw_160 : (Cond.fieldLink "RobotBus" 228 "RobotBus$Topic" "recorded" "Z") ∈ gtb := gtb_of (tb_1 (List.mem_of_getElem? (i := 160) (by decide +kernel))) (by decide +kernel)
theorem tw_161 : (Cond.fieldLink "RobotBus$Topic" 16 "RobotBus$Topic" "hasLast" "Z") ∈ gtb := gtb_of (tb_1 (List.mem_of_getElem? (i := 161) (by decide +kernel))) (by decide +kernel)
theorem tw_162 : (Cond.fieldLink "RobotBus" 135 "RobotBus$Topic" "hasLast" "Z") ∈ gtb := gtb_of (tb_1 (List.mem_of_getElem? (i := 162) (by decide +kernel))) (by decide +kernel)
theorem tw_163 : (Cond.fieldLink "RobotBus$Topic" 19 "RobotBus$Topic" "lastValue" "I") ∈ gtb := gtb_of (tb_1 (List.mem_of_getElem? (i := 163) (by decide +kernel))) (by decide +kernel)
theorem tw_164 : (Cond.fieldLink "RobotBus" 138 "RobotBus$Topic" "lastValue" "I") ∈ gtb := gtb_of (tb_1 (List.mem_of_getElem? (i := 164) (by decide +kernel))) (by decide +kernel)
theorem tw_165 : (Cond.fieldLink "RobotBus$Topic" 23 "RobotBus$Topic" "lastSender" "I") ∈ gtb := gtb_of (tb_1 (List.mem_of_getElem? (i := 165) (by decide +kernel))) (by decide +kernel)
theorem tw_166 : (Cond.fieldLink "RobotBus" 141 "RobotBus$Topic" "lastSender" "I") ∈ gtb := gtb_of (tb_1 (List.mem_of_getElem? (i := 166) (by decide +kernel))) (by decide +kernel)
theorem tw_167 : (Cond.fieldLink "RobotBus$Topic" 26 "RobotBus$Topic" "lastStamp" "I") ∈ gtb := gtb_of (tb_1 (List.mem_of_getElem? (i := 167) (by decide +kernel))) (by decide +kernel)
theorem tw_168 : (Cond.fieldLink "RobotBus" 144 "RobotBus$Topic" "lastStamp" "I") ∈ gtb := gtb_of (tb_1 (List.mem_of_getElem? (i := 168) (by decide +kernel))) (by decide +kernel)
theorem tw_169 : (Cond.lays "RobotBus$Topic" "RobotBus$Topic" "latched" "Z") ∈ gtb := gtb_of (tb_1 (List.mem_of_getElem? (i := 169) (by decide +kernel))) (by decide +kernel)
theorem tw_171 : (Cond.lays "RobotBus$Topic" "RobotBus$Topic" "recorded" "Z") ∈ gtb := gtb_of (tb_1 (List.mem_of_getElem? (i := 171) (by decide +kernel))) (by decide +kernel)
theorem tw_173 : (Cond.lays "RobotBus$Topic" "RobotBus$Topic" "hasLast" "Z") ∈ gtb := gtb_of (tb_1 (List.mem_of_getElem? (i := 173) (by decide +kernel))) (by decide +kernel)
theorem tw_175 : (Cond.lays "RobotBus$Topic" "RobotBus$Topic" "lastValue" "I") ∈ gtb := gtb_of (tb_1 (List.mem_of_getElem? (i := 175) (by decide +kernel))) (by decide +kernel)
theorem tw_177 : (Cond.lays "RobotBus$Topic" "RobotBus$Topic" "lastSender" "I") ∈ gtb := gtb_of (tb_1 (List.mem_of_getElem? (i := 177) (by decide +kernel))) (by decide +kernel)
theorem tw_179 : (Cond.lays "RobotBus$Topic" "RobotBus$Topic" "lastStamp" "I") ∈ gtb := gtb_of (tb_1 (List.mem_of_getElem? (i := 179) (by decide +kernel))) (by decide +kernel)
theorem tw_182 : (Cond.instantiable "RobotBus$Service" 4) ∈ gtb := gtb_of (tb_1 (List.mem_of_getElem? (i := 182) (by decide +kernel))) (by decide +kernel)
theorem tw_184 : (Cond.instanceMethod y_Srv_init) ∈ gtb := gtb_of (tb_1 (List.mem_of_getElem? (i := 184) (by decide +kernel))) (by decide +kernel)
theorem tw_185 : (Cond.code y_Srv_init prog_8_method_1_code 1 (Option.none : Option Jvm.ClassFile.FieldType)) ∈ gtb := gtb_of (tb_1 (List.mem_of_getElem? (i := 185) rfl)) rfl
theorem tw_186 : (Cond.methodLink "RobotBus$Service" 3 ({ cls := "java/lang/Object", name := "<init>", desc := "()V" } : MethodName)) ∈ gtb := gtb_of (tb_1 (List.mem_of_getElem? (i := 186) (by decide +kernel))) (by decide +kernel)
theorem tw_187 : (Cond.fieldLink "RobotBus$Service" 9 "RobotBus$Service" "node" "I") ∈ gtb := gtb_of (tb_1 (List.mem_of_getElem? (i := 187) (by decide +kernel))) (by decide +kernel)
theorem tw_188 : (Cond.fieldLink "RobotBus" 103 "RobotBus$Service" "node" "I") ∈ gtb := gtb_of (tb_1 (List.mem_of_getElem? (i := 188) (by decide +kernel))) (by decide +kernel)
theorem tw_189 : (Cond.fieldLink "RobotBus$Service" 15 "RobotBus$Service" "kind" "I") ∈ gtb := gtb_of (tb_1 (List.mem_of_getElem? (i := 189) (by decide +kernel))) (by decide +kernel)
theorem tw_190 : (Cond.fieldLink "RobotBus" 188 "RobotBus$Service" "kind" "I") ∈ gtb := gtb_of (tb_1 (List.mem_of_getElem? (i := 190) (by decide +kernel))) (by decide +kernel)
theorem tw_191 : (Cond.fieldLink "RobotBus$Service" 18 "RobotBus$Service" "c" "I") ∈ gtb := gtb_of (tb_1 (List.mem_of_getElem? (i := 191) (by decide +kernel))) (by decide +kernel)
theorem tw_192 : (Cond.fieldLink "RobotBus" 189 "RobotBus$Service" "c" "I") ∈ gtb := gtb_of (tb_1 (List.mem_of_getElem? (i := 192) (by decide +kernel))) (by decide +kernel)
theorem tw_193 : (Cond.fieldLink "RobotBus$Service" 21 "RobotBus$Service" "d" "I") ∈ gtb := gtb_of (tb_1 (List.mem_of_getElem? (i := 193) (by decide +kernel))) (by decide +kernel)
theorem tw_194 : (Cond.fieldLink "RobotBus" 192 "RobotBus$Service" "d" "I") ∈ gtb := gtb_of (tb_1 (List.mem_of_getElem? (i := 194) (by decide +kernel))) (by decide +kernel)
theorem tw_195 : (Cond.lays "RobotBus$Service" "RobotBus$Service" "node" "I") ∈ gtb := gtb_of (tb_1 (List.mem_of_getElem? (i := 195) (by decide +kernel))) (by decide +kernel)
theorem tw_197 : (Cond.lays "RobotBus$Service" "RobotBus$Service" "kind" "I") ∈ gtb := gtb_of (tb_1 (List.mem_of_getElem? (i := 197) (by decide +kernel))) (by decide +kernel)
theorem tw_199 : (Cond.lays "RobotBus$Service" "RobotBus$Service" "c" "I") ∈ gtb := gtb_of (tb_1 (List.mem_of_getElem? (i := 199) (by decide +kernel))) (by decide +kernel)
theorem tw_201 : (Cond.lays "RobotBus$Service" "RobotBus$Service" "d" "I") ∈ gtb := gtb_of (tb_1 (List.mem_of_getElem? (i := 201) (by decide +kernel))) (by decide +kernel)
theorem tw_204 : (Cond.instantiable "RobotBus$Frame" 6) ∈ gtb := gtb_of (tb_1 (List.mem_of_getElem? (i := 204) (by decide +kernel))) (by decide +kernel)
theorem tw_206 : (Cond.instanceMethod y_Frm_init) ∈ gtb := gtb_of (tb_1 (List.mem_of_getElem? (i := 206) (by decide +kernel))) (by decide +kernel)
theorem tw_207 : (Cond.code y_Frm_init prog_4_method_1_code 1 (Option.none : Option Jvm.ClassFile.FieldType)) ∈ gtb := gtb_of (tb_1 (List.mem_of_getElem? (i := 207) rfl)) rfl
theorem tw_208 : (Cond.methodLink "RobotBus$Frame" 3 ({ cls := "java/lang/Object", name := "<init>", desc := "()V" } : MethodName)) ∈ gtb := gtb_of (tb_1 (List.mem_of_getElem? (i := 208) (by decide +kernel))) (by decide +kernel)
theorem tw_209 : (Cond.fieldLink "RobotBus$Frame" 9 "RobotBus$Frame" "times" "[I") ∈ gtb := gtb_of (tb_1 (List.mem_of_getElem? (i := 209) (by decide +kernel))) (by decide +kernel)
theorem tw_210 : (Cond.fieldLink "RobotBus$Frame" 15 "RobotBus$Frame" "xs" "[I") ∈ gtb := gtb_of (tb_1 (List.mem_of_getElem? (i := 210) (by decide +kernel))) (by decide +kernel)
theorem tw_211 : (Cond.fieldLink "RobotBus$Point" 26 "RobotBus$Frame" "xs" "[I") ∈ gtb := gtb_of (tb_1 (List.mem_of_getElem? (i := 211) (by decide +kernel))) (by decide +kernel)
theorem tw_212 : (Cond.fieldLink "RobotBus$Frame" 18 "RobotBus$Frame" "ys" "[I") ∈ gtb := gtb_of (tb_1 (List.mem_of_getElem? (i := 212) (by decide +kernel))) (by decide +kernel)
theorem tw_213 : (Cond.fieldLink "RobotBus$Point" 33 "RobotBus$Frame" "ys" "[I") ∈ gtb := gtb_of (tb_1 (List.mem_of_getElem? (i := 213) (by decide +kernel))) (by decide +kernel)
theorem tw_214 : (Cond.fieldLink "RobotBus$Frame" 21 "RobotBus$Frame" "turns" "[I") ∈ gtb := gtb_of (tb_1 (List.mem_of_getElem? (i := 214) (by decide +kernel))) (by decide +kernel)
theorem tw_215 : (Cond.fieldLink "RobotBus$Point" 16 "RobotBus$Frame" "turns" "[I") ∈ gtb := gtb_of (tb_1 (List.mem_of_getElem? (i := 215) (by decide +kernel))) (by decide +kernel)
theorem tw_216 : (Cond.fieldLink "RobotBus$Frame" 24 "RobotBus$Frame" "parent" "I") ∈ gtb := gtb_of (tb_1 (List.mem_of_getElem? (i := 216) (by decide +kernel))) (by decide +kernel)
theorem tw_217 : (Cond.fieldLink "RobotBus" 255 "RobotBus$Frame" "parent" "I") ∈ gtb := gtb_of (tb_1 (List.mem_of_getElem? (i := 217) (by decide +kernel))) (by decide +kernel)
theorem tw_218 : (Cond.fieldLink "RobotBus$Frame" 28 "RobotBus$Frame" "size" "I") ∈ gtb := gtb_of (tb_1 (List.mem_of_getElem? (i := 218) (by decide +kernel))) (by decide +kernel)
theorem tw_219 : (Cond.fieldLink "RobotBus" 258 "RobotBus$Frame" "size" "I") ∈ gtb := gtb_of (tb_1 (List.mem_of_getElem? (i := 219) (by decide +kernel))) (by decide +kernel)
theorem tw_220 : (Cond.laysFinal "RobotBus$Frame" "RobotBus$Frame" "times" "[I") ∈ gtb := gtb_of (tb_1 (List.mem_of_getElem? (i := 220) (by decide +kernel))) (by decide +kernel)
theorem tw_222 : (Cond.laysFinal "RobotBus$Frame" "RobotBus$Frame" "xs" "[I") ∈ gtb := gtb_of (tb_1 (List.mem_of_getElem? (i := 222) (by decide +kernel))) (by decide +kernel)
theorem tw_224 : (Cond.laysFinal "RobotBus$Frame" "RobotBus$Frame" "ys" "[I") ∈ gtb := gtb_of (tb_1 (List.mem_of_getElem? (i := 224) (by decide +kernel))) (by decide +kernel)
theorem tw_226 : (Cond.laysFinal "RobotBus$Frame" "RobotBus$Frame" "turns" "[I") ∈ gtb := gtb_of (tb_1 (List.mem_of_getElem? (i := 226) (by decide +kernel))) (by decide +kernel)
theorem tw_228 : (Cond.lays "RobotBus$Frame" "RobotBus$Frame" "parent" "I") ∈ gtb := gtb_of (tb_1 (List.mem_of_getElem? (i := 228) (by decide +kernel))) (by decide +kernel)
theorem tw_230 : (Cond.lays "RobotBus$Frame" "RobotBus$Frame" "size" "I") ∈ gtb := gtb_of (tb_1 (List.mem_of_getElem? (i := 230) (by decide +kernel))) (by decide +kernel)
theorem tw_233 : (Cond.fieldLink "RobotBus" 11 "RobotBus" "nodes" "[LRobotBus$Node;") ∈ gtb := gtb_of (tb_1 (List.mem_of_getElem? (i := 233) (by decide +kernel))) (by decide +kernel)
theorem tw_234 : (Cond.fieldLink "RobotBus" 17 "RobotBus" "topics" "[LRobotBus$Topic;") ∈ gtb := gtb_of (tb_1 (List.mem_of_getElem? (i := 234) (by decide +kernel))) (by decide +kernel)
theorem tw_235 : (Cond.fieldLink "RobotBus" 23 "RobotBus" "services" "[LRobotBus$Service;") ∈ gtb := gtb_of (tb_1 (List.mem_of_getElem? (i := 235) (by decide +kernel))) (by decide +kernel)
theorem tw_236 : (Cond.fieldLink "RobotBus" 29 "RobotBus" "frames" "[LRobotBus$Frame;") ∈ gtb := gtb_of (tb_1 (List.mem_of_getElem? (i := 236) (by decide +kernel))) (by decide +kernel)
theorem tw_237 : (Cond.fieldLink "RobotBus" 36 "RobotBus" "bag" "LRobotBus$Bag;") ∈ gtb := gtb_of (tb_1 (List.mem_of_getElem? (i := 237) (by decide +kernel))) (by decide +kernel)
theorem tw_238 : (Cond.fieldLink "RobotBus" 43 "RobotBus" "point" "LRobotBus$Point;") ∈ gtb := gtb_of (tb_1 (List.mem_of_getElem? (i := 238) (by decide +kernel))) (by decide +kernel)
theorem tw_239 : (Cond.fieldLink "RobotBus" 47 "RobotBus" "clock" "I") ∈ gtb := gtb_of (tb_1 (List.mem_of_getElem? (i := 239) (by decide +kernel))) (by decide +kernel)
theorem tw_240 : (Cond.fieldLink "RobotBus" 51 "RobotBus" "messagesLost" "I") ∈ gtb := gtb_of (tb_2 (List.mem_of_getElem? (i := 0) (by decide +kernel))) (by decide +kernel)
theorem tw_241 : (Cond.fieldLink "RobotBus" 54 "RobotBus" "messagesPublished" "I") ∈ gtb := gtb_of (tb_2 (List.mem_of_getElem? (i := 1) (by decide +kernel))) (by decide +kernel)
theorem tw_242 : (Cond.fieldLink "RobotBus" 57 "RobotBus" "actionsDone" "I") ∈ gtb := gtb_of (tb_2 (List.mem_of_getElem? (i := 2) (by decide +kernel))) (by decide +kernel)
theorem tw_243 : (Cond.fieldLink "RobotBus" 60 "RobotBus" "asksFailed" "I") ∈ gtb := gtb_of (tb_2 (List.mem_of_getElem? (i := 3) (by decide +kernel))) (by decide +kernel)
theorem tw_244 : (Cond.fieldLink "RobotBus" 63 "RobotBus" "answer" "I") ∈ gtb := gtb_of (tb_2 (List.mem_of_getElem? (i := 4) (by decide +kernel))) (by decide +kernel)
theorem tw_245 : (Cond.fieldLink "RobotBus" 66 "RobotBus" "keptY" "D") ∈ gtb := gtb_of (tb_2 (List.mem_of_getElem? (i := 5) (by decide +kernel))) (by decide +kernel)
theorem tw_246 : (Cond.laysFinal "RobotBus" "RobotBus" "nodes" "[LRobotBus$Node;") ∈ gtb := gtb_of (tb_2 (List.mem_of_getElem? (i := 6) (by decide +kernel))) (by decide +kernel)
theorem tw_248 : (Cond.laysFinal "RobotBus" "RobotBus" "topics" "[LRobotBus$Topic;") ∈ gtb := gtb_of (tb_2 (List.mem_of_getElem? (i := 8) (by decide +kernel))) (by decide +kernel)
theorem tw_250 : (Cond.laysFinal "RobotBus" "RobotBus" "services" "[LRobotBus$Service;") ∈ gtb := gtb_of (tb_2 (List.mem_of_getElem? (i := 10) (by decide +kernel))) (by decide +kernel)
theorem tw_252 : (Cond.laysFinal "RobotBus" "RobotBus" "frames" "[LRobotBus$Frame;") ∈ gtb := gtb_of (tb_2 (List.mem_of_getElem? (i := 12) (by decide +kernel))) (by decide +kernel)
theorem tw_254 : (Cond.laysFinal "RobotBus" "RobotBus" "bag" "LRobotBus$Bag;") ∈ gtb := gtb_of (tb_2 (List.mem_of_getElem? (i := 14) (by decide +kernel))) (by decide +kernel)
theorem tw_256 : (Cond.laysFinal "RobotBus" "RobotBus" "point" "LRobotBus$Point;") ∈ gtb := gtb_of (tb_2 (List.mem_of_getElem? (i := 16) (by decide +kernel))) (by decide +kernel)
theorem tw_258 : (Cond.lays "RobotBus" "RobotBus" "clock" "I") ∈ gtb := gtb_of (tb_2 (List.mem_of_getElem? (i := 18) (by decide +kernel))) (by decide +kernel)
theorem tw_260 : (Cond.lays "RobotBus" "RobotBus" "messagesLost" "I") ∈ gtb := gtb_of (tb_2 (List.mem_of_getElem? (i := 20) (by decide +kernel))) (by decide +kernel)
theorem tw_262 : (Cond.lays "RobotBus" "RobotBus" "messagesPublished" "I") ∈ gtb := gtb_of (tb_2 (List.mem_of_getElem? (i := 22) (by decide +kernel))) (by decide +kernel)
theorem tw_264 : (Cond.lays "RobotBus" "RobotBus" "actionsDone" "I") ∈ gtb := gtb_of (tb_2 (List.mem_of_getElem? (i := 24) (by decide +kernel))) (by decide +kernel)
theorem tw_266 : (Cond.lays "RobotBus" "RobotBus" "asksFailed" "I") ∈ gtb := gtb_of (tb_2 (List.mem_of_getElem? (i := 26) (by decide +kernel))) (by decide +kernel)
theorem tw_268 : (Cond.lays "RobotBus" "RobotBus" "answer" "I") ∈ gtb := gtb_of (tb_2 (List.mem_of_getElem? (i := 28) (by decide +kernel))) (by decide +kernel)
theorem tw_270 : (Cond.lays "RobotBus" "RobotBus" "keptY" "D") ∈ gtb := gtb_of (tb_2 (List.mem_of_getElem? (i := 30) (by decide +kernel))) (by decide +kernel)
theorem tw_273 : (Cond.methodLink "RobotBusLaw" 159 y_Bus_lastY) ∈ gtb := gtb_of (tb_2 (List.mem_of_getElem? (i := 33) (by decide +kernel))) (by decide +kernel)
theorem tw_274 : (Cond.instanceMethod y_Bus_lastY) ∈ gtb := gtb_of (tb_2 (List.mem_of_getElem? (i := 34) (by decide +kernel))) (by decide +kernel)
theorem tw_275 : (Cond.selects "RobotBus" y_Bus_lastY y_Bus_lastY) ∈ gtb := gtb_of (tb_2 (List.mem_of_getElem? (i := 35) (by decide +kernel))) (by decide +kernel)
theorem tw_276 : (Cond.code y_Bus_lastY prog_1_method_20_code 1 (some FieldType.double)) ∈ gtb := gtb_of (tb_2 (List.mem_of_getElem? (i := 36) rfl)) rfl
theorem tw_277 : (Cond.methodLink "RobotBusLaw" 89 y_Law_join) ∈ gtb := gtb_of (tb_2 (List.mem_of_getElem? (i := 37) (by decide +kernel))) (by decide +kernel)
theorem tw_278 : (Cond.static y_Law_join) ∈ gtb := gtb_of (tb_2 (List.mem_of_getElem? (i := 38) (by decide +kernel))) (by decide +kernel)
theorem tw_280 : (Cond.classLink "RobotBusLaw" 13 "java/lang/IllegalArgumentException") ∈ gtb := gtb_of (tb_2 (List.mem_of_getElem? (i := 40) (by decide +kernel))) (by decide +kernel)
theorem tw_281 : (Cond.classLink "RobotBusLaw" 15 "java/lang/IllegalStateException") ∈ gtb := gtb_of (tb_2 (List.mem_of_getElem? (i := 41) (by decide +kernel))) (by decide +kernel)
theorem tw_282 : (Cond.methodLink "RobotBusLaw" 7 y_Bus_join) ∈ gtb := gtb_of (tb_2 (List.mem_of_getElem? (i := 42) (by decide +kernel))) (by decide +kernel)
theorem tw_283 : (Cond.instanceMethod y_Bus_join) ∈ gtb := gtb_of (tb_2 (List.mem_of_getElem? (i := 43) (by decide +kernel))) (by decide +kernel)
theorem tw_284 : (Cond.selects "RobotBus" y_Bus_join y_Bus_join) ∈ gtb := gtb_of (tb_2 (List.mem_of_getElem? (i := 44) (by decide +kernel))) (by decide +kernel)
theorem tw_285 : (Cond.code y_Bus_join prog_1_method_2_code 2 (some FieldType.int)) ∈ gtb := gtb_of (tb_2 (List.mem_of_getElem? (i := 45) rfl)) rfl
theorem tw_286 : (Cond.methodLink "RobotBus" 74 y_Bus_isBelow) ∈ gtb := gtb_of (tb_2 (List.mem_of_getElem? (i := 46) (by decide +kernel))) (by decide +kernel)
theorem tw_287 : (Cond.static y_Bus_isBelow) ∈ gtb := gtb_of (tb_2 (List.mem_of_getElem? (i := 47) (by decide +kernel))) (by decide +kernel)
theorem tw_288 : (Cond.code y_Bus_isBelow prog_1_method_23_code 2 (some FieldType.boolean)) ∈ gtb := gtb_of (tb_2 (List.mem_of_getElem? (i := 48) rfl)) rfl
theorem tw_289 : (Cond.classLink "RobotBus" 78 "java/lang/IllegalArgumentException") ∈ gtb := gtb_of (tb_2 (List.mem_of_getElem? (i := 49) (by decide +kernel))) (by decide +kernel)
theorem tw_290 : (Cond.instantiable "java/lang/IllegalArgumentException" 6) ∈ gtb := gtb_of (tb_2 (List.mem_of_getElem? (i := 50) (by decide +kernel))) (by decide +kernel)
theorem tw_298 : (Cond.selects "java/lang/IllegalArgumentException" ({ cls := "java/lang/Throwable", name := "fillInStackTrace", desc := "(I)Ljava/lang/Throwable;" } : MethodName) ({ cls := "java/lang/Throwable", name := "fillInStackTrace", desc := "(I)Ljava/lang/Throwable;" } : MethodName)) ∈ gtb := gtb_of (tb_2 (List.mem_of_getElem? (i := 58) (by decide +kernel))) (by decide +kernel)
theorem tw_299 : (Cond.selects "java/lang/IllegalArgumentException" ({ cls := "java/lang/Throwable", name := "fillInStackTrace", desc := "()Ljava/lang/Throwable;" } : MethodName) ({ cls := "java/lang/Throwable", name := "fillInStackTrace", desc := "()Ljava/lang/Throwable;" } : MethodName)) ∈ gtb := gtb_of (tb_2 (List.mem_of_getElem? (i := 59) (by decide +kernel))) (by decide +kernel)
theorem tw_300 : (Cond.lays "java/lang/IllegalArgumentException" "java/lang/Throwable" "cause" "Ljava/lang/Throwable;") ∈ gtb := gtb_of (tb_2 (List.mem_of_getElem? (i := 60) (by decide +kernel))) (by decide +kernel)
theorem tw_301 : (Cond.lays "java/lang/Throwable" "java/lang/Throwable" "cause" "Ljava/lang/Throwable;") ∈ gtb := gtb_of (tb_2 (List.mem_of_getElem? (i := 61) (by decide +kernel))) (by decide +kernel)
theorem tw_302 : (Cond.lays "java/lang/IllegalArgumentException" "java/lang/Throwable" "stackTrace" "[Ljava/lang/StackTraceElement;") ∈ gtb := gtb_of (tb_2 (List.mem_of_getElem? (i := 62) (by decide +kernel))) (by decide +kernel)
theorem tw_303 : (Cond.lays "java/lang/Throwable" "java/lang/Throwable" "stackTrace" "[Ljava/lang/StackTraceElement;") ∈ gtb := gtb_of (tb_2 (List.mem_of_getElem? (i := 63) (by decide +kernel))) (by decide +kernel)
theorem tw_304 : (Cond.lays "java/lang/IllegalArgumentException" "java/lang/Throwable" "suppressedExceptions" "Ljava/util/List;") ∈ gtb := gtb_of (tb_2 (List.mem_of_getElem? (i := 64) (by decide +kernel))) (by decide +kernel)
theorem tw_305 : (Cond.lays "java/lang/Throwable" "java/lang/Throwable" "suppressedExceptions" "Ljava/util/List;") ∈ gtb := gtb_of (tb_2 (List.mem_of_getElem? (i := 65) (by decide +kernel))) (by decide +kernel)
theorem tw_306 : (Cond.lays "java/lang/IllegalArgumentException" "java/lang/Throwable" "detailMessage" "Ljava/lang/String;") ∈ gtb := gtb_of (tb_2 (List.mem_of_getElem? (i := 66) (by decide +kernel))) (by decide +kernel)
theorem tw_307 : (Cond.lays "java/lang/Throwable" "java/lang/Throwable" "detailMessage" "Ljava/lang/String;") ∈ gtb := gtb_of (tb_2 (List.mem_of_getElem? (i := 67) (by decide +kernel))) (by decide +kernel)
theorem tw_308 : (Cond.lays "java/lang/IllegalArgumentException" "java/lang/Throwable" "backtrace" "Ljava/lang/Object;") ∈ gtb := gtb_of (tb_2 (List.mem_of_getElem? (i := 68) (by decide +kernel))) (by decide +kernel)
theorem tw_309 : (Cond.lays "java/lang/Throwable" "java/lang/Throwable" "backtrace" "Ljava/lang/Object;") ∈ gtb := gtb_of (tb_2 (List.mem_of_getElem? (i := 69) (by decide +kernel))) (by decide +kernel)
theorem tw_310 : (Cond.fieldLink "java/lang/Throwable" 198 "java/lang/Throwable" "backtrace" "Ljava/lang/Object;") ∈ gtb := gtb_of (tb_2 (List.mem_of_getElem? (i := 70) (by decide +kernel))) (by decide +kernel)
theorem tw_312 : (Cond.instanceMethod ({ cls := "java/lang/Throwable", name := "<init>", desc := "()V" } : MethodName)) ∈ gtb := gtb_of (tb_2 (List.mem_of_getElem? (i := 72) (by decide +kernel))) (by decide +kernel)
theorem tw_313 : (Cond.code ({ cls := "java/lang/Throwable", name := "<init>", desc := "()V" } : MethodName) prog_20_method_1_code 1 (Option.none : Option Jvm.ClassFile.FieldType)) ∈ gtb := gtb_of (tb_2 (List.mem_of_getElem? (i := 73) rfl)) rfl
theorem tw_314 : (Cond.methodLink "java/lang/Throwable" 1 ({ cls := "java/lang/Object", name := "<init>", desc := "()V" } : MethodName)) ∈ gtb := gtb_of (tb_2 (List.mem_of_getElem? (i := 74) (by decide +kernel))) (by decide +kernel)
theorem tw_315 : (Cond.fieldLink "java/lang/Throwable" 13 "java/lang/Throwable" "UNASSIGNED_STACK" "[Ljava/lang/StackTraceElement;") ∈ gtb := gtb_of (tb_2 (List.mem_of_getElem? (i := 75) (by decide +kernel))) (by decide +kernel)
theorem tw_317 : (Cond.fieldLink "java/lang/Throwable" 20 "java/lang/Throwable" "SUPPRESSED_SENTINEL" "Ljava/util/List;") ∈ gtb := gtb_of (tb_2 (List.mem_of_getElem? (i := 77) (by decide +kernel))) (by decide +kernel)
theorem tw_319 : (Cond.methodLink "java/lang/Throwable" 27 ({ cls := "java/lang/Throwable", name := "fillInStackTrace", desc := "()Ljava/lang/Throwable;" } : MethodName)) ∈ gtb := gtb_of (tb_2 (List.mem_of_getElem? (i := 79) (by decide +kernel))) (by decide +kernel)
theorem tw_320 : (Cond.instanceMethod ({ cls := "java/lang/Throwable", name := "fillInStackTrace", desc := "()Ljava/lang/Throwable;" } : MethodName)) ∈ gtb := gtb_of (tb_2 (List.mem_of_getElem? (i := 80) (by decide +kernel))) (by decide +kernel)
theorem tw_322 : (Cond.selects "java/lang/ArithmeticException" ({ cls := "java/lang/Throwable", name := "fillInStackTrace", desc := "()Ljava/lang/Throwable;" } : MethodName) ({ cls := "java/lang/Throwable", name := "fillInStackTrace", desc := "()Ljava/lang/Throwable;" } : MethodName)) ∈ gtb := gtb_of (tb_2 (List.mem_of_getElem? (i := 82) (by decide +kernel))) (by decide +kernel)
theorem tw_323 : (Cond.selects "java/lang/IllegalStateException" ({ cls := "java/lang/Throwable", name := "fillInStackTrace", desc := "()Ljava/lang/Throwable;" } : MethodName) ({ cls := "java/lang/Throwable", name := "fillInStackTrace", desc := "()Ljava/lang/Throwable;" } : MethodName)) ∈ gtb := gtb_of (tb_2 (List.mem_of_getElem? (i := 83) (by decide +kernel))) (by decide +kernel)
theorem tw_324 : (Cond.selects "java/lang/UnsupportedOperationException" ({ cls := "java/lang/Throwable", name := "fillInStackTrace", desc := "()Ljava/lang/Throwable;" } : MethodName) ({ cls := "java/lang/Throwable", name := "fillInStackTrace", desc := "()Ljava/lang/Throwable;" } : MethodName)) ∈ gtb := gtb_of (tb_2 (List.mem_of_getElem? (i := 84) (by decide +kernel))) (by decide +kernel)
theorem tw_325 : (Cond.selects "java/util/NoSuchElementException" ({ cls := "java/lang/Throwable", name := "fillInStackTrace", desc := "()Ljava/lang/Throwable;" } : MethodName) ({ cls := "java/lang/Throwable", name := "fillInStackTrace", desc := "()Ljava/lang/Throwable;" } : MethodName)) ∈ gtb := gtb_of (tb_2 (List.mem_of_getElem? (i := 85) (by decide +kernel))) (by decide +kernel)
theorem tw_327 : (Cond.methodLink "java/lang/Throwable" 202 ({ cls := "java/lang/Throwable", name := "fillInStackTrace", desc := "(I)Ljava/lang/Throwable;" } : MethodName)) ∈ gtb := gtb_of (tb_2 (List.mem_of_getElem? (i := 87) (by decide +kernel))) (by decide +kernel)
theorem tw_329 : (Cond.instanceMethod ({ cls := "java/lang/Throwable", name := "fillInStackTrace", desc := "(I)Ljava/lang/Throwable;" } : MethodName)) ∈ gtb := gtb_of (tb_2 (List.mem_of_getElem? (i := 89) (by decide +kernel))) (by decide +kernel)
theorem tw_330 : (Cond.instantiable "java/lang/Throwable" 6) ∈ gtb := gtb_of (tb_2 (List.mem_of_getElem? (i := 90) (by decide +kernel))) (by decide +kernel)
theorem tw_331 : (Cond.native ({ cls := "java/lang/Throwable", name := "fillInStackTrace", desc := "(I)Ljava/lang/Throwable;" } : MethodName)) ∈ gtb := gtb_of (tb_2 (List.mem_of_getElem? (i := 91) (by decide +kernel))) (by decide +kernel)
theorem tw_333 : (Cond.methodLink "RobotBus" 82 ({ cls := "java/lang/IllegalArgumentException", name := "<init>", desc := "(Ljava/lang/String;)V" } : MethodName)) ∈ gtb := gtb_of (tb_2 (List.mem_of_getElem? (i := 93) (by decide +kernel))) (by decide +kernel)
theorem tw_334 : (Cond.instanceMethod ({ cls := "java/lang/IllegalArgumentException", name := "<init>", desc := "(Ljava/lang/String;)V" } : MethodName)) ∈ gtb := gtb_of (tb_2 (List.mem_of_getElem? (i := 94) (by decide +kernel))) (by decide +kernel)
theorem tw_335 : (Cond.code ({ cls := "java/lang/IllegalArgumentException", name := "<init>", desc := "(Ljava/lang/String;)V" } : MethodName) prog_14_method_2_code 2 (Option.none : Option Jvm.ClassFile.FieldType)) ∈ gtb := gtb_of (tb_2 (List.mem_of_getElem? (i := 95) rfl)) rfl
theorem tw_336 : (Cond.methodLink "java/lang/IllegalArgumentException" 7 ({ cls := "java/lang/RuntimeException", name := "<init>", desc := "(Ljava/lang/String;)V" } : MethodName)) ∈ gtb := gtb_of (tb_2 (List.mem_of_getElem? (i := 96) (by decide +kernel))) (by decide +kernel)
theorem tw_337 : (Cond.instanceMethod ({ cls := "java/lang/RuntimeException", name := "<init>", desc := "(Ljava/lang/String;)V" } : MethodName)) ∈ gtb := gtb_of (tb_2 (List.mem_of_getElem? (i := 97) (by decide +kernel))) (by decide +kernel)
theorem tw_338 : (Cond.code ({ cls := "java/lang/RuntimeException", name := "<init>", desc := "(Ljava/lang/String;)V" } : MethodName) prog_17_method_2_code 2 (Option.none : Option Jvm.ClassFile.FieldType)) ∈ gtb := gtb_of (tb_2 (List.mem_of_getElem? (i := 98) rfl)) rfl
theorem tw_339 : (Cond.methodLink "java/lang/RuntimeException" 7 ({ cls := "java/lang/Exception", name := "<init>", desc := "(Ljava/lang/String;)V" } : MethodName)) ∈ gtb := gtb_of (tb_2 (List.mem_of_getElem? (i := 99) (by decide +kernel))) (by decide +kernel)
theorem tw_340 : (Cond.instanceMethod ({ cls := "java/lang/Exception", name := "<init>", desc := "(Ljava/lang/String;)V" } : MethodName)) ∈ gtb := gtb_of (tb_2 (List.mem_of_getElem? (i := 100) (by decide +kernel))) (by decide +kernel)
theorem tw_341 : (Cond.code ({ cls := "java/lang/Exception", name := "<init>", desc := "(Ljava/lang/String;)V" } : MethodName) prog_13_method_2_code 2 (Option.none : Option Jvm.ClassFile.FieldType)) ∈ gtb := gtb_of (tb_2 (List.mem_of_getElem? (i := 101) rfl)) rfl
theorem tw_342 : (Cond.methodLink "java/lang/Exception" 7 ({ cls := "java/lang/Throwable", name := "<init>", desc := "(Ljava/lang/String;)V" } : MethodName)) ∈ gtb := gtb_of (tb_2 (List.mem_of_getElem? (i := 102) (by decide +kernel))) (by decide +kernel)
theorem tw_343 : (Cond.instanceMethod ({ cls := "java/lang/Throwable", name := "<init>", desc := "(Ljava/lang/String;)V" } : MethodName)) ∈ gtb := gtb_of (tb_2 (List.mem_of_getElem? (i := 103) (by decide +kernel))) (by decide +kernel)
theorem tw_344 : (Cond.code ({ cls := "java/lang/Throwable", name := "<init>", desc := "(Ljava/lang/String;)V" } : MethodName) prog_20_method_2_code 2 (Option.none : Option Jvm.ClassFile.FieldType)) ∈ gtb := gtb_of (tb_2 (List.mem_of_getElem? (i := 104) rfl)) rfl
theorem tw_345 : (Cond.fieldLink "java/lang/Throwable" 198 "java/lang/Throwable" "backtrace" "Ljava/lang/Object;") ∈ gtb := gtb_of (tb_2 (List.mem_of_getElem? (i := 105) (by decide +kernel))) (by decide +kernel)
theorem tw_346 : (Cond.fieldLink "java/lang/Throwable" 31 "java/lang/Throwable" "detailMessage" "Ljava/lang/String;") ∈ gtb := gtb_of (tb_2 (List.mem_of_getElem? (i := 106) (by decide +kernel))) (by decide +kernel)
theorem tw_347 : (Cond.fieldLink "java/lang/Throwable" 7 "java/lang/Throwable" "cause" "Ljava/lang/Throwable;") ∈ gtb := gtb_of (tb_2 (List.mem_of_getElem? (i := 107) (by decide +kernel))) (by decide +kernel)
theorem tw_348 : (Cond.fieldLink "java/lang/Throwable" 17 "java/lang/Throwable" "stackTrace" "[Ljava/lang/StackTraceElement;") ∈ gtb := gtb_of (tb_2 (List.mem_of_getElem? (i := 108) (by decide +kernel))) (by decide +kernel)
theorem tw_349 : (Cond.fieldLink "java/lang/Throwable" 24 "java/lang/Throwable" "suppressedExceptions" "Ljava/util/List;") ∈ gtb := gtb_of (tb_2 (List.mem_of_getElem? (i := 109) (by decide +kernel))) (by decide +kernel)
theorem tw_354 : (Cond.lays "java/lang/IllegalArgumentException" "java/lang/Throwable" "depth" "I") ∈ gtb := gtb_of (tb_2 (List.mem_of_getElem? (i := 114) (by decide +kernel))) (by decide +kernel)
theorem tw_358 : (Cond.arrayClass FieldType.byte) ∈ gtb := gtb_of (tb_2 (List.mem_of_getElem? (i := 118) (by decide +kernel))) (by decide +kernel)
theorem tw_359 : (Cond.classLink "RobotBus" 89 "java/lang/IllegalStateException") ∈ gtb := gtb_of (tb_2 (List.mem_of_getElem? (i := 119) (by decide +kernel))) (by decide +kernel)
theorem tw_360 : (Cond.instantiable "java/lang/IllegalStateException" 6) ∈ gtb := gtb_of (tb_2 (List.mem_of_getElem? (i := 120) (by decide +kernel))) (by decide +kernel)
theorem tw_362 : (Cond.selects "java/lang/IllegalStateException" ({ cls := "java/lang/Throwable", name := "fillInStackTrace", desc := "(I)Ljava/lang/Throwable;" } : MethodName) ({ cls := "java/lang/Throwable", name := "fillInStackTrace", desc := "(I)Ljava/lang/Throwable;" } : MethodName)) ∈ gtb := gtb_of (tb_2 (List.mem_of_getElem? (i := 122) (by decide +kernel))) (by decide +kernel)
theorem tw_363 : (Cond.lays "java/lang/IllegalStateException" "java/lang/Throwable" "cause" "Ljava/lang/Throwable;") ∈ gtb := gtb_of (tb_2 (List.mem_of_getElem? (i := 123) (by decide +kernel))) (by decide +kernel)
theorem tw_364 : (Cond.lays "java/lang/IllegalStateException" "java/lang/Throwable" "stackTrace" "[Ljava/lang/StackTraceElement;") ∈ gtb := gtb_of (tb_2 (List.mem_of_getElem? (i := 124) (by decide +kernel))) (by decide +kernel)
theorem tw_365 : (Cond.lays "java/lang/IllegalStateException" "java/lang/Throwable" "suppressedExceptions" "Ljava/util/List;") ∈ gtb := gtb_of (tb_2 (List.mem_of_getElem? (i := 125) (by decide +kernel))) (by decide +kernel)
theorem tw_366 : (Cond.lays "java/lang/IllegalStateException" "java/lang/Throwable" "detailMessage" "Ljava/lang/String;") ∈ gtb := gtb_of (tb_2 (List.mem_of_getElem? (i := 126) (by decide +kernel))) (by decide +kernel)
theorem tw_367 : (Cond.lays "java/lang/IllegalStateException" "java/lang/Throwable" "backtrace" "Ljava/lang/Object;") ∈ gtb := gtb_of (tb_2 (List.mem_of_getElem? (i := 127) (by decide +kernel))) (by decide +kernel)
theorem tw_369 : (Cond.methodLink "RobotBus" 93 ({ cls := "java/lang/IllegalStateException", name := "<init>", desc := "(Ljava/lang/String;)V" } : MethodName)) ∈ gtb := gtb_of (tb_2 (List.mem_of_getElem? (i := 129) (by decide +kernel))) (by decide +kernel)
theorem tw_370 : (Cond.instanceMethod ({ cls := "java/lang/IllegalStateException", name := "<init>", desc := "(Ljava/lang/String;)V" } : MethodName)) ∈ gtb := gtb_of (tb_2 (List.mem_of_getElem? (i := 130) (by decide +kernel))) (by decide +kernel)
theorem tw_371 : (Cond.code ({ cls := "java/lang/IllegalStateException", name := "<init>", desc := "(Ljava/lang/String;)V" } : MethodName) prog_15_method_2_code 2 (Option.none : Option Jvm.ClassFile.FieldType)) ∈ gtb := gtb_of (tb_2 (List.mem_of_getElem? (i := 131) rfl)) rfl
theorem tw_372 : (Cond.methodLink "java/lang/IllegalStateException" 7 ({ cls := "java/lang/RuntimeException", name := "<init>", desc := "(Ljava/lang/String;)V" } : MethodName)) ∈ gtb := gtb_of (tb_2 (List.mem_of_getElem? (i := 132) (by decide +kernel))) (by decide +kernel)
theorem tw_373 : (Cond.lays "java/lang/IllegalStateException" "java/lang/Throwable" "depth" "I") ∈ gtb := gtb_of (tb_2 (List.mem_of_getElem? (i := 133) (by decide +kernel))) (by decide +kernel)
theorem tw_375 : (Cond.methodLink "RobotBusLaw" 98 y_Law_leave) ∈ gtb := gtb_of (tb_2 (List.mem_of_getElem? (i := 135) (by decide +kernel))) (by decide +kernel)
theorem tw_376 : (Cond.static y_Law_leave) ∈ gtb := gtb_of (tb_2 (List.mem_of_getElem? (i := 136) (by decide +kernel))) (by decide +kernel)
theorem tw_378 : (Cond.classLink "RobotBusLaw" 20 "java/util/NoSuchElementException") ∈ gtb := gtb_of (tb_2 (List.mem_of_getElem? (i := 138) (by decide +kernel))) (by decide +kernel)
theorem tw_379 : (Cond.methodLink "RobotBusLaw" 17 y_Bus_leave) ∈ gtb := gtb_of (tb_2 (List.mem_of_getElem? (i := 139) (by decide +kernel))) (by decide +kernel)
theorem tw_380 : (Cond.instanceMethod y_Bus_leave) ∈ gtb := gtb_of (tb_2 (List.mem_of_getElem? (i := 140) (by decide +kernel))) (by decide +kernel)
theorem tw_381 : (Cond.selects "RobotBus" y_Bus_leave y_Bus_leave) ∈ gtb := gtb_of (tb_2 (List.mem_of_getElem? (i := 141) (by decide +kernel))) (by decide +kernel)
theorem tw_382 : (Cond.code y_Bus_leave prog_1_method_3_code 3 (some FieldType.int)) ∈ gtb := gtb_of (tb_2 (List.mem_of_getElem? (i := 142) rfl)) rfl
theorem tw_383 : (Cond.methodLink "RobotBus" 94 y_Bus_isThere) ∈ gtb := gtb_of (tb_2 (List.mem_of_getElem? (i := 143) (by decide +kernel))) (by decide +kernel)
theorem tw_385 : (Cond.instanceMethod y_Bus_isThere) ∈ gtb := gtb_of (tb_2 (List.mem_of_getElem? (i := 145) (by decide +kernel))) (by decide +kernel)
theorem tw_386 : (Cond.code y_Bus_isThere prog_1_method_24_code 2 (some FieldType.boolean)) ∈ gtb := gtb_of (tb_2 (List.mem_of_getElem? (i := 146) rfl)) rfl
theorem tw_387 : (Cond.classLink "RobotBus" 98 "java/util/NoSuchElementException") ∈ gtb := gtb_of (tb_2 (List.mem_of_getElem? (i := 147) (by decide +kernel))) (by decide +kernel)
theorem tw_388 : (Cond.instantiable "java/util/NoSuchElementException" 6) ∈ gtb := gtb_of (tb_2 (List.mem_of_getElem? (i := 148) (by decide +kernel))) (by decide +kernel)
theorem tw_390 : (Cond.selects "java/util/NoSuchElementException" ({ cls := "java/lang/Throwable", name := "fillInStackTrace", desc := "(I)Ljava/lang/Throwable;" } : MethodName) ({ cls := "java/lang/Throwable", name := "fillInStackTrace", desc := "(I)Ljava/lang/Throwable;" } : MethodName)) ∈ gtb := gtb_of (tb_2 (List.mem_of_getElem? (i := 150) (by decide +kernel))) (by decide +kernel)
theorem tw_391 : (Cond.lays "java/util/NoSuchElementException" "java/lang/Throwable" "cause" "Ljava/lang/Throwable;") ∈ gtb := gtb_of (tb_2 (List.mem_of_getElem? (i := 151) (by decide +kernel))) (by decide +kernel)
theorem tw_392 : (Cond.lays "java/util/NoSuchElementException" "java/lang/Throwable" "stackTrace" "[Ljava/lang/StackTraceElement;") ∈ gtb := gtb_of (tb_2 (List.mem_of_getElem? (i := 152) (by decide +kernel))) (by decide +kernel)
theorem tw_393 : (Cond.lays "java/util/NoSuchElementException" "java/lang/Throwable" "suppressedExceptions" "Ljava/util/List;") ∈ gtb := gtb_of (tb_2 (List.mem_of_getElem? (i := 153) (by decide +kernel))) (by decide +kernel)
theorem tw_394 : (Cond.lays "java/util/NoSuchElementException" "java/lang/Throwable" "detailMessage" "Ljava/lang/String;") ∈ gtb := gtb_of (tb_2 (List.mem_of_getElem? (i := 154) (by decide +kernel))) (by decide +kernel)
theorem tw_395 : (Cond.lays "java/util/NoSuchElementException" "java/lang/Throwable" "backtrace" "Ljava/lang/Object;") ∈ gtb := gtb_of (tb_2 (List.mem_of_getElem? (i := 155) (by decide +kernel))) (by decide +kernel)
theorem tw_397 : (Cond.methodLink "RobotBus" 102 ({ cls := "java/util/NoSuchElementException", name := "<init>", desc := "(Ljava/lang/String;)V" } : MethodName)) ∈ gtb := gtb_of (tb_2 (List.mem_of_getElem? (i := 157) (by decide +kernel))) (by decide +kernel)
theorem tw_398 : (Cond.instanceMethod ({ cls := "java/util/NoSuchElementException", name := "<init>", desc := "(Ljava/lang/String;)V" } : MethodName)) ∈ gtb := gtb_of (tb_2 (List.mem_of_getElem? (i := 158) (by decide +kernel))) (by decide +kernel)
theorem tw_399 : (Cond.code ({ cls := "java/util/NoSuchElementException", name := "<init>", desc := "(Ljava/lang/String;)V" } : MethodName) prog_22_method_4_code 2 (Option.none : Option Jvm.ClassFile.FieldType)) ∈ gtb := gtb_of (tb_2 (List.mem_of_getElem? (i := 159) rfl)) rfl
theorem tw_400 : (Cond.methodLink "java/util/NoSuchElementException" 13 ({ cls := "java/lang/RuntimeException", name := "<init>", desc := "(Ljava/lang/String;)V" } : MethodName)) ∈ gtb := gtb_of (tb_2 (List.mem_of_getElem? (i := 160) (by decide +kernel))) (by decide +kernel)
theorem tw_401 : (Cond.lays "java/util/NoSuchElementException" "java/lang/Throwable" "depth" "I") ∈ gtb := gtb_of (tb_2 (List.mem_of_getElem? (i := 161) (by decide +kernel))) (by decide +kernel)
theorem tw_403 : (Cond.methodLink "RobotBus" 106 y_Nod_reset) ∈ gtb := gtb_of (tb_2 (List.mem_of_getElem? (i := 163) (by decide +kernel))) (by decide +kernel)
theorem tw_404 : (Cond.instanceMethod y_Nod_reset) ∈ gtb := gtb_of (tb_2 (List.mem_of_getElem? (i := 164) (by decide +kernel))) (by decide +kernel)
theorem tw_405 : (Cond.selects "RobotBus$Node" y_Nod_reset y_Nod_reset) ∈ gtb := gtb_of (tb_2 (List.mem_of_getElem? (i := 165) (by decide +kernel))) (by decide +kernel)
theorem tw_406 : (Cond.code y_Nod_reset prog_5_method_2_code 3 (some FieldType.int)) ∈ gtb := gtb_of (tb_2 (List.mem_of_getElem? (i := 166) rfl)) rfl
theorem tw_407 : (Cond.methodLink "RobotBus$Node" 37 y_Que_close) ∈ gtb := gtb_of (tb_2 (List.mem_of_getElem? (i := 167) (by decide +kernel))) (by decide +kernel)
theorem tw_408 : (Cond.instanceMethod y_Que_close) ∈ gtb := gtb_of (tb_2 (List.mem_of_getElem? (i := 168) (by decide +kernel))) (by decide +kernel)
theorem tw_409 : (Cond.selects "RobotBus$Queue" y_Que_close y_Que_close) ∈ gtb := gtb_of (tb_2 (List.mem_of_getElem? (i := 169) (by decide +kernel))) (by decide +kernel)
theorem tw_410 : (Cond.code y_Que_close prog_7_method_4_code 2 (some FieldType.int)) ∈ gtb := gtb_of (tb_2 (List.mem_of_getElem? (i := 170) rfl)) rfl
theorem tw_411 : (Cond.methodLink "RobotBusLaw" 101 y_Law_latch) ∈ gtb := gtb_of (tb_2 (List.mem_of_getElem? (i := 171) (by decide +kernel))) (by decide +kernel)
theorem tw_412 : (Cond.static y_Law_latch) ∈ gtb := gtb_of (tb_2 (List.mem_of_getElem? (i := 172) (by decide +kernel))) (by decide +kernel)
theorem tw_414 : (Cond.methodLink "RobotBusLaw" 22 y_Bus_latch) ∈ gtb := gtb_of (tb_2 (List.mem_of_getElem? (i := 174) (by decide +kernel))) (by decide +kernel)
theorem tw_415 : (Cond.instanceMethod y_Bus_latch) ∈ gtb := gtb_of (tb_2 (List.mem_of_getElem? (i := 175) (by decide +kernel))) (by decide +kernel)
theorem tw_416 : (Cond.selects "RobotBus" y_Bus_latch y_Bus_latch) ∈ gtb := gtb_of (tb_2 (List.mem_of_getElem? (i := 176) (by decide +kernel))) (by decide +kernel)
theorem tw_417 : (Cond.code y_Bus_latch prog_1_method_4_code 4 (some FieldType.int)) ∈ gtb := gtb_of (tb_2 (List.mem_of_getElem? (i := 177) rfl)) rfl
theorem tw_419 : (Cond.methodLink "RobotBusLaw" 105 y_Law_subscribe) ∈ gtb := gtb_of (tb_2 (List.mem_of_getElem? (i := 179) (by decide +kernel))) (by decide +kernel)
theorem tw_420 : (Cond.static y_Law_subscribe) ∈ gtb := gtb_of (tb_2 (List.mem_of_getElem? (i := 180) (by decide +kernel))) (by decide +kernel)
theorem tw_422 : (Cond.methodLink "RobotBusLaw" 26 y_Bus_subscribe) ∈ gtb := gtb_of (tb_2 (List.mem_of_getElem? (i := 182) (by decide +kernel))) (by decide +kernel)
theorem tw_423 : (Cond.instanceMethod y_Bus_subscribe) ∈ gtb := gtb_of (tb_2 (List.mem_of_getElem? (i := 183) (by decide +kernel))) (by decide +kernel)
theorem tw_424 : (Cond.selects "RobotBus" y_Bus_subscribe y_Bus_subscribe) ∈ gtb := gtb_of (tb_2 (List.mem_of_getElem? (i := 184) (by decide +kernel))) (by decide +kernel)
theorem tw_425 : (Cond.code y_Bus_subscribe prog_1_method_5_code 7 (some FieldType.int)) ∈ gtb := gtb_of (tb_2 (List.mem_of_getElem? (i := 185) rfl)) rfl
theorem tw_426 : (Cond.methodLink "RobotBus" 115 y_Bus_isWithin) ∈ gtb := gtb_of (tb_2 (List.mem_of_getElem? (i := 186) (by decide +kernel))) (by decide +kernel)
theorem tw_427 : (Cond.static y_Bus_isWithin) ∈ gtb := gtb_of (tb_2 (List.mem_of_getElem? (i := 187) (by decide +kernel))) (by decide +kernel)
theorem tw_428 : (Cond.code y_Bus_isWithin prog_1_method_22_code 3 (some FieldType.boolean)) ∈ gtb := gtb_of (tb_2 (List.mem_of_getElem? (i := 188) rfl)) rfl
theorem tw_430 : (Cond.methodLink "RobotBus" 125 y_Que_isOpen) ∈ gtb := gtb_of (tb_2 (List.mem_of_getElem? (i := 190) (by decide +kernel))) (by decide +kernel)
theorem tw_431 : (Cond.instanceMethod y_Que_isOpen) ∈ gtb := gtb_of (tb_2 (List.mem_of_getElem? (i := 191) (by decide +kernel))) (by decide +kernel)
theorem tw_432 : (Cond.selects "RobotBus$Queue" y_Que_isOpen y_Que_isOpen) ∈ gtb := gtb_of (tb_2 (List.mem_of_getElem? (i := 192) (by decide +kernel))) (by decide +kernel)
theorem tw_433 : (Cond.code y_Que_isOpen prog_7_method_2_code 1 (some FieldType.boolean)) ∈ gtb := gtb_of (tb_2 (List.mem_of_getElem? (i := 193) rfl)) rfl
theorem tw_434 : (Cond.methodLink "RobotBus" 131 y_Que_deepen) ∈ gtb := gtb_of (tb_2 (List.mem_of_getElem? (i := 194) (by decide +kernel))) (by decide +kernel)
theorem tw_435 : (Cond.instanceMethod y_Que_deepen) ∈ gtb := gtb_of (tb_2 (List.mem_of_getElem? (i := 195) (by decide +kernel))) (by decide +kernel)
theorem tw_436 : (Cond.selects "RobotBus$Queue" y_Que_deepen y_Que_deepen) ∈ gtb := gtb_of (tb_2 (List.mem_of_getElem? (i := 196) (by decide +kernel))) (by decide +kernel)
theorem tw_437 : (Cond.code y_Que_deepen prog_7_method_5_code 3 (some FieldType.int)) ∈ gtb := gtb_of (tb_2 (List.mem_of_getElem? (i := 197) rfl)) rfl
theorem tw_438 : (Cond.methodLink "RobotBus$Queue" 22 y_Math_max) ∈ gtb := gtb_of (tb_2 (List.mem_of_getElem? (i := 198) (by decide +kernel))) (by decide +kernel)
theorem tw_439 : (Cond.static y_Math_max) ∈ gtb := gtb_of (tb_2 (List.mem_of_getElem? (i := 199) (by decide +kernel))) (by decide +kernel)
theorem tw_440 : (Cond.code y_Math_max prog_16_method_65_code 2 (some FieldType.int)) ∈ gtb := gtb_of (tb_2 (List.mem_of_getElem? (i := 200) rfl)) rfl
theorem tw_441 : (Cond.methodLink "RobotBus$Queue" 28 y_Que_dropOldest) ∈ gtb := gtb_of (tb_2 (List.mem_of_getElem? (i := 201) (by decide +kernel))) (by decide +kernel)
theorem tw_442 : (Cond.instanceMethod y_Que_dropOldest) ∈ gtb := gtb_of (tb_2 (List.mem_of_getElem? (i := 202) (by decide +kernel))) (by decide +kernel)
theorem tw_443 : (Cond.selects "RobotBus$Queue" y_Que_dropOldest y_Que_dropOldest) ∈ gtb := gtb_of (tb_2 (List.mem_of_getElem? (i := 203) (by decide +kernel))) (by decide +kernel)
theorem tw_444 : (Cond.code y_Que_dropOldest prog_7_method_7_code 2 (Option.none : Option Jvm.ClassFile.FieldType)) ∈ gtb := gtb_of (tb_2 (List.mem_of_getElem? (i := 204) rfl)) rfl
theorem tw_445 : (Cond.methodLink "RobotBus$Queue" 32 ({ cls := "java/lang/System", name := "arraycopy", desc := "(Ljava/lang/Object;ILjava/lang/Object;II)V" } : MethodName)) ∈ gtb := gtb_of (tb_2 (List.mem_of_getElem? (i := 205) (by decide +kernel))) (by decide +kernel)
theorem tw_446 : (Cond.static ({ cls := "java/lang/System", name := "arraycopy", desc := "(Ljava/lang/Object;ILjava/lang/Object;II)V" } : MethodName)) ∈ gtb := gtb_of (tb_2 (List.mem_of_getElem? (i := 206) (by decide +kernel))) (by decide +kernel)
theorem tw_447 : (Cond.native ({ cls := "java/lang/System", name := "arraycopy", desc := "(Ljava/lang/Object;ILjava/lang/Object;II)V" } : MethodName)) ∈ gtb := gtb_of (tb_2 (List.mem_of_getElem? (i := 207) (by decide +kernel))) (by decide +kernel)
theorem tw_448 : (Cond.methodLink "RobotBus" 147 y_Que_append) ∈ gtb := gtb_of (tb_2 (List.mem_of_getElem? (i := 208) (by decide +kernel))) (by decide +kernel)
theorem tw_449 : (Cond.instanceMethod y_Que_append) ∈ gtb := gtb_of (tb_2 (List.mem_of_getElem? (i := 209) (by decide +kernel))) (by decide +kernel)
theorem tw_450 : (Cond.selects "RobotBus$Queue" y_Que_append y_Que_append) ∈ gtb := gtb_of (tb_2 (List.mem_of_getElem? (i := 210) (by decide +kernel))) (by decide +kernel)
theorem tw_451 : (Cond.code y_Que_append prog_7_method_6_code 6 (some FieldType.int)) ∈ gtb := gtb_of (tb_2 (List.mem_of_getElem? (i := 211) rfl)) rfl
theorem tw_452 : (Cond.methodLink "RobotBusLaw" 109 y_Law_unsubscribe) ∈ gtb := gtb_of (tb_2 (List.mem_of_getElem? (i := 212) (by decide +kernel))) (by decide +kernel)
theorem tw_453 : (Cond.static y_Law_unsubscribe) ∈ gtb := gtb_of (tb_2 (List.mem_of_getElem? (i := 213) (by decide +kernel))) (by decide +kernel)
theorem tw_455 : (Cond.methodLink "RobotBusLaw" 30 y_Bus_unsubscribe) ∈ gtb := gtb_of (tb_2 (List.mem_of_getElem? (i := 215) (by decide +kernel))) (by decide +kernel)
theorem tw_456 : (Cond.instanceMethod y_Bus_unsubscribe) ∈ gtb := gtb_of (tb_2 (List.mem_of_getElem? (i := 216) (by decide +kernel))) (by decide +kernel)
theorem tw_457 : (Cond.selects "RobotBus" y_Bus_unsubscribe y_Bus_unsubscribe) ∈ gtb := gtb_of (tb_2 (List.mem_of_getElem? (i := 217) (by decide +kernel))) (by decide +kernel)
theorem tw_458 : (Cond.code y_Bus_unsubscribe prog_1_method_6_code 3 (some FieldType.int)) ∈ gtb := gtb_of (tb_2 (List.mem_of_getElem? (i := 218) rfl)) rfl
theorem tw_460 : (Cond.methodLink "RobotBus" 156 y_Que_close) ∈ gtb := gtb_of (tb_2 (List.mem_of_getElem? (i := 220) (by decide +kernel))) (by decide +kernel)
theorem tw_461 : (Cond.methodLink "RobotBusLaw" 113 y_Law_publish) ∈ gtb := gtb_of (tb_2 (List.mem_of_getElem? (i := 221) (by decide +kernel))) (by decide +kernel)
theorem tw_462 : (Cond.static y_Law_publish) ∈ gtb := gtb_of (tb_2 (List.mem_of_getElem? (i := 222) (by decide +kernel))) (by decide +kernel)
theorem tw_464 : (Cond.methodLink "RobotBusLaw" 34 y_Bus_publish) ∈ gtb := gtb_of (tb_2 (List.mem_of_getElem? (i := 224) (by decide +kernel))) (by decide +kernel)
theorem tw_465 : (Cond.instanceMethod y_Bus_publish) ∈ gtb := gtb_of (tb_2 (List.mem_of_getElem? (i := 225) (by decide +kernel))) (by decide +kernel)
theorem tw_466 : (Cond.selects "RobotBus" y_Bus_publish y_Bus_publish) ∈ gtb := gtb_of (tb_2 (List.mem_of_getElem? (i := 226) (by decide +kernel))) (by decide +kernel)
theorem tw_467 : (Cond.code y_Bus_publish prog_1_method_7_code 4 (some FieldType.int)) ∈ gtb := gtb_of (tb_2 (List.mem_of_getElem? (i := 227) rfl)) rfl
theorem tw_468 : (Cond.methodLink "RobotBus" 159 y_Bus_send) ∈ gtb := gtb_of (tb_2 (List.mem_of_getElem? (i := 228) (by decide +kernel))) (by decide +kernel)
theorem tw_470 : (Cond.instanceMethod y_Bus_send) ∈ gtb := gtb_of (tb_2 (List.mem_of_getElem? (i := 230) (by decide +kernel))) (by decide +kernel)
theorem tw_471 : (Cond.code y_Bus_send prog_1_method_29_code 7 (some FieldType.int)) ∈ gtb := gtb_of (tb_2 (List.mem_of_getElem? (i := 231) rfl)) rfl
theorem tw_472 : (Cond.methodLink "RobotBus" 303 y_Top_setLast) ∈ gtb := gtb_of (tb_2 (List.mem_of_getElem? (i := 232) (by decide +kernel))) (by decide +kernel)
theorem tw_473 : (Cond.instanceMethod y_Top_setLast) ∈ gtb := gtb_of (tb_2 (List.mem_of_getElem? (i := 233) (by decide +kernel))) (by decide +kernel)
theorem tw_474 : (Cond.selects "RobotBus$Topic" y_Top_setLast y_Top_setLast) ∈ gtb := gtb_of (tb_2 (List.mem_of_getElem? (i := 234) (by decide +kernel))) (by decide +kernel)
theorem tw_475 : (Cond.code y_Top_setLast prog_9_method_2_code 4 (Option.none : Option Jvm.ClassFile.FieldType)) ∈ gtb := gtb_of (tb_2 (List.mem_of_getElem? (i := 235) rfl)) rfl
theorem tw_476 : (Cond.methodLink "RobotBus" 307 y_Bag_append) ∈ gtb := gtb_of (tb_2 (List.mem_of_getElem? (i := 236) (by decide +kernel))) (by decide +kernel)
theorem tw_477 : (Cond.instanceMethod y_Bag_append) ∈ gtb := gtb_of (tb_2 (List.mem_of_getElem? (i := 237) (by decide +kernel))) (by decide +kernel)
theorem tw_478 : (Cond.selects "RobotBus$Bag" y_Bag_append y_Bag_append) ∈ gtb := gtb_of (tb_2 (List.mem_of_getElem? (i := 238) (by decide +kernel))) (by decide +kernel)
theorem tw_479 : (Cond.code y_Bag_append prog_3_method_2_code 4 (Option.none : Option Jvm.ClassFile.FieldType)) ∈ gtb := gtb_of (tb_2 (List.mem_of_getElem? (i := 239) rfl)) rfl
theorem tw_480 : (Cond.methodLink "RobotBusLaw" 116 y_Law_act) ∈ gtb := gtb_of (tb_3 (List.mem_of_getElem? (i := 0) (by decide +kernel))) (by decide +kernel)
theorem tw_481 : (Cond.static y_Law_act) ∈ gtb := gtb_of (tb_3 (List.mem_of_getElem? (i := 1) (by decide +kernel))) (by decide +kernel)
theorem tw_483 : (Cond.methodLink "RobotBusLaw" 37 y_Bus_act) ∈ gtb := gtb_of (tb_3 (List.mem_of_getElem? (i := 3) (by decide +kernel))) (by decide +kernel)
theorem tw_484 : (Cond.instanceMethod y_Bus_act) ∈ gtb := gtb_of (tb_3 (List.mem_of_getElem? (i := 4) (by decide +kernel))) (by decide +kernel)
theorem tw_485 : (Cond.selects "RobotBus" y_Bus_act y_Bus_act) ∈ gtb := gtb_of (tb_3 (List.mem_of_getElem? (i := 5) (by decide +kernel))) (by decide +kernel)
theorem tw_486 : (Cond.code y_Bus_act prog_1_method_8_code 8 (some FieldType.int)) ∈ gtb := gtb_of (tb_3 (List.mem_of_getElem? (i := 6) rfl)) rfl
theorem tw_487 : (Cond.methodLink "RobotBus" 162 y_Bus_isAction) ∈ gtb := gtb_of (tb_3 (List.mem_of_getElem? (i := 7) (by decide +kernel))) (by decide +kernel)
theorem tw_488 : (Cond.static y_Bus_isAction) ∈ gtb := gtb_of (tb_3 (List.mem_of_getElem? (i := 8) (by decide +kernel))) (by decide +kernel)
theorem tw_489 : (Cond.code y_Bus_isAction prog_1_method_25_code 3 (some FieldType.boolean)) ∈ gtb := gtb_of (tb_3 (List.mem_of_getElem? (i := 9) rfl)) rfl
theorem tw_491 : (Cond.methodLink "RobotBusLaw" 120 y_Law_offer) ∈ gtb := gtb_of (tb_3 (List.mem_of_getElem? (i := 11) (by decide +kernel))) (by decide +kernel)
theorem tw_492 : (Cond.static y_Law_offer) ∈ gtb := gtb_of (tb_3 (List.mem_of_getElem? (i := 12) (by decide +kernel))) (by decide +kernel)
theorem tw_494 : (Cond.methodLink "RobotBusLaw" 41 y_Bus_offer) ∈ gtb := gtb_of (tb_3 (List.mem_of_getElem? (i := 14) (by decide +kernel))) (by decide +kernel)
theorem tw_495 : (Cond.instanceMethod y_Bus_offer) ∈ gtb := gtb_of (tb_3 (List.mem_of_getElem? (i := 15) (by decide +kernel))) (by decide +kernel)
theorem tw_496 : (Cond.selects "RobotBus" y_Bus_offer y_Bus_offer) ∈ gtb := gtb_of (tb_3 (List.mem_of_getElem? (i := 16) (by decide +kernel))) (by decide +kernel)
theorem tw_497 : (Cond.code y_Bus_offer prog_1_method_9_code 8 (some FieldType.int)) ∈ gtb := gtb_of (tb_3 (List.mem_of_getElem? (i := 17) rfl)) rfl
theorem tw_498 : (Cond.methodLink "RobotBus" 182 y_Bus_isService) ∈ gtb := gtb_of (tb_3 (List.mem_of_getElem? (i := 18) (by decide +kernel))) (by decide +kernel)
theorem tw_499 : (Cond.static y_Bus_isService) ∈ gtb := gtb_of (tb_3 (List.mem_of_getElem? (i := 19) (by decide +kernel))) (by decide +kernel)
theorem tw_500 : (Cond.code y_Bus_isService prog_1_method_26_code 4 (some FieldType.boolean)) ∈ gtb := gtb_of (tb_3 (List.mem_of_getElem? (i := 20) rfl)) rfl
theorem tw_502 : (Cond.methodLink "RobotBusLaw" 123 y_Law_call) ∈ gtb := gtb_of (tb_3 (List.mem_of_getElem? (i := 22) (by decide +kernel))) (by decide +kernel)
theorem tw_503 : (Cond.static y_Law_call) ∈ gtb := gtb_of (tb_3 (List.mem_of_getElem? (i := 23) (by decide +kernel))) (by decide +kernel)
theorem tw_505 : (Cond.classLink "RobotBusLaw" 47 "java/lang/ArithmeticException") ∈ gtb := gtb_of (tb_3 (List.mem_of_getElem? (i := 25) (by decide +kernel))) (by decide +kernel)
theorem tw_506 : (Cond.methodLink "RobotBusLaw" 44 y_Bus_call) ∈ gtb := gtb_of (tb_3 (List.mem_of_getElem? (i := 26) (by decide +kernel))) (by decide +kernel)
theorem tw_507 : (Cond.instanceMethod y_Bus_call) ∈ gtb := gtb_of (tb_3 (List.mem_of_getElem? (i := 27) (by decide +kernel))) (by decide +kernel)
theorem tw_508 : (Cond.selects "RobotBus" y_Bus_call y_Bus_call) ∈ gtb := gtb_of (tb_3 (List.mem_of_getElem? (i := 28) (by decide +kernel))) (by decide +kernel)
theorem tw_509 : (Cond.code y_Bus_call prog_1_method_10_code 4 (some FieldType.int)) ∈ gtb := gtb_of (tb_3 (List.mem_of_getElem? (i := 29) rfl)) rfl
theorem tw_511 : (Cond.methodLink "RobotBus" 197 y_Bus_ask) ∈ gtb := gtb_of (tb_3 (List.mem_of_getElem? (i := 31) (by decide +kernel))) (by decide +kernel)
theorem tw_513 : (Cond.instanceMethod y_Bus_ask) ∈ gtb := gtb_of (tb_3 (List.mem_of_getElem? (i := 33) (by decide +kernel))) (by decide +kernel)
theorem tw_514 : (Cond.code y_Bus_ask prog_1_method_33_code 7 (some FieldType.int)) ∈ gtb := gtb_of (tb_3 (List.mem_of_getElem? (i := 34) rfl)) rfl
theorem tw_515 : (Cond.methodLink "RobotBus" 334 y_Bus_compute) ∈ gtb := gtb_of (tb_3 (List.mem_of_getElem? (i := 35) (by decide +kernel))) (by decide +kernel)
theorem tw_517 : (Cond.instanceMethod y_Bus_compute) ∈ gtb := gtb_of (tb_3 (List.mem_of_getElem? (i := 37) (by decide +kernel))) (by decide +kernel)
theorem tw_518 : (Cond.code y_Bus_compute prog_1_method_34_code 6 (some FieldType.int)) ∈ gtb := gtb_of (tb_3 (List.mem_of_getElem? (i := 38) rfl)) rfl
theorem tw_520 : (Cond.classLink "RobotBus" 203 "java/lang/ArithmeticException") ∈ gtb := gtb_of (tb_3 (List.mem_of_getElem? (i := 40) (by decide +kernel))) (by decide +kernel)
theorem tw_521 : (Cond.instantiable "java/lang/ArithmeticException" 6) ∈ gtb := gtb_of (tb_3 (List.mem_of_getElem? (i := 41) (by decide +kernel))) (by decide +kernel)
theorem tw_523 : (Cond.selects "java/lang/ArithmeticException" ({ cls := "java/lang/Throwable", name := "fillInStackTrace", desc := "(I)Ljava/lang/Throwable;" } : MethodName) ({ cls := "java/lang/Throwable", name := "fillInStackTrace", desc := "(I)Ljava/lang/Throwable;" } : MethodName)) ∈ gtb := gtb_of (tb_3 (List.mem_of_getElem? (i := 43) (by decide +kernel))) (by decide +kernel)
theorem tw_524 : (Cond.lays "java/lang/ArithmeticException" "java/lang/Throwable" "cause" "Ljava/lang/Throwable;") ∈ gtb := gtb_of (tb_3 (List.mem_of_getElem? (i := 44) (by decide +kernel))) (by decide +kernel)
theorem tw_525 : (Cond.lays "java/lang/ArithmeticException" "java/lang/Throwable" "stackTrace" "[Ljava/lang/StackTraceElement;") ∈ gtb := gtb_of (tb_3 (List.mem_of_getElem? (i := 45) (by decide +kernel))) (by decide +kernel)
theorem tw_526 : (Cond.lays "java/lang/ArithmeticException" "java/lang/Throwable" "suppressedExceptions" "Ljava/util/List;") ∈ gtb := gtb_of (tb_3 (List.mem_of_getElem? (i := 46) (by decide +kernel))) (by decide +kernel)
theorem tw_527 : (Cond.lays "java/lang/ArithmeticException" "java/lang/Throwable" "detailMessage" "Ljava/lang/String;") ∈ gtb := gtb_of (tb_3 (List.mem_of_getElem? (i := 47) (by decide +kernel))) (by decide +kernel)
theorem tw_528 : (Cond.lays "java/lang/ArithmeticException" "java/lang/Throwable" "backtrace" "Ljava/lang/Object;") ∈ gtb := gtb_of (tb_3 (List.mem_of_getElem? (i := 48) (by decide +kernel))) (by decide +kernel)
theorem tw_530 : (Cond.methodLink "RobotBus" 207 ({ cls := "java/lang/ArithmeticException", name := "<init>", desc := "(Ljava/lang/String;)V" } : MethodName)) ∈ gtb := gtb_of (tb_3 (List.mem_of_getElem? (i := 50) (by decide +kernel))) (by decide +kernel)
theorem tw_531 : (Cond.instanceMethod ({ cls := "java/lang/ArithmeticException", name := "<init>", desc := "(Ljava/lang/String;)V" } : MethodName)) ∈ gtb := gtb_of (tb_3 (List.mem_of_getElem? (i := 51) (by decide +kernel))) (by decide +kernel)
theorem tw_532 : (Cond.code ({ cls := "java/lang/ArithmeticException", name := "<init>", desc := "(Ljava/lang/String;)V" } : MethodName) prog_12_method_2_code 2 (Option.none : Option Jvm.ClassFile.FieldType)) ∈ gtb := gtb_of (tb_3 (List.mem_of_getElem? (i := 52) rfl)) rfl
theorem tw_533 : (Cond.methodLink "java/lang/ArithmeticException" 7 ({ cls := "java/lang/RuntimeException", name := "<init>", desc := "(Ljava/lang/String;)V" } : MethodName)) ∈ gtb := gtb_of (tb_3 (List.mem_of_getElem? (i := 53) (by decide +kernel))) (by decide +kernel)
theorem tw_534 : (Cond.lays "java/lang/ArithmeticException" "java/lang/Throwable" "depth" "I") ∈ gtb := gtb_of (tb_3 (List.mem_of_getElem? (i := 54) (by decide +kernel))) (by decide +kernel)
theorem tw_536 : (Cond.methodLink "RobotBusLaw" 126 y_Law_tick) ∈ gtb := gtb_of (tb_3 (List.mem_of_getElem? (i := 56) (by decide +kernel))) (by decide +kernel)
theorem tw_537 : (Cond.static y_Law_tick) ∈ gtb := gtb_of (tb_3 (List.mem_of_getElem? (i := 57) (by decide +kernel))) (by decide +kernel)
theorem tw_539 : (Cond.methodLink "RobotBusLaw" 49 y_Bus_tick) ∈ gtb := gtb_of (tb_3 (List.mem_of_getElem? (i := 59) (by decide +kernel))) (by decide +kernel)
theorem tw_540 : (Cond.instanceMethod y_Bus_tick) ∈ gtb := gtb_of (tb_3 (List.mem_of_getElem? (i := 60) (by decide +kernel))) (by decide +kernel)
theorem tw_541 : (Cond.selects "RobotBus" y_Bus_tick y_Bus_tick) ∈ gtb := gtb_of (tb_3 (List.mem_of_getElem? (i := 61) (by decide +kernel))) (by decide +kernel)
theorem tw_542 : (Cond.code y_Bus_tick prog_1_method_11_code 3 (some FieldType.int)) ∈ gtb := gtb_of (tb_3 (List.mem_of_getElem? (i := 62) rfl)) rfl
theorem tw_544 : (Cond.methodLink "RobotBus" 210 y_Bus_passOneTick) ∈ gtb := gtb_of (tb_3 (List.mem_of_getElem? (i := 64) (by decide +kernel))) (by decide +kernel)
theorem tw_546 : (Cond.instanceMethod y_Bus_passOneTick) ∈ gtb := gtb_of (tb_3 (List.mem_of_getElem? (i := 66) (by decide +kernel))) (by decide +kernel)
theorem tw_547 : (Cond.code y_Bus_passOneTick prog_1_method_30_code 3 (Option.none : Option Jvm.ClassFile.FieldType)) ∈ gtb := gtb_of (tb_3 (List.mem_of_getElem? (i := 67) rfl)) rfl
theorem tw_548 : (Cond.methodLink "RobotBus" 309 y_Bag_isDue) ∈ gtb := gtb_of (tb_3 (List.mem_of_getElem? (i := 68) (by decide +kernel))) (by decide +kernel)
theorem tw_549 : (Cond.instanceMethod y_Bag_isDue) ∈ gtb := gtb_of (tb_3 (List.mem_of_getElem? (i := 69) (by decide +kernel))) (by decide +kernel)
theorem tw_550 : (Cond.selects "RobotBus$Bag" y_Bag_isDue y_Bag_isDue) ∈ gtb := gtb_of (tb_3 (List.mem_of_getElem? (i := 70) (by decide +kernel))) (by decide +kernel)
theorem tw_551 : (Cond.code y_Bag_isDue prog_3_method_5_code 3 (some FieldType.boolean)) ∈ gtb := gtb_of (tb_3 (List.mem_of_getElem? (i := 71) rfl)) rfl
theorem tw_552 : (Cond.methodLink "RobotBus$Bag" 37 y_Bag_isPlaying) ∈ gtb := gtb_of (tb_3 (List.mem_of_getElem? (i := 72) (by decide +kernel))) (by decide +kernel)
theorem tw_553 : (Cond.instanceMethod y_Bag_isPlaying) ∈ gtb := gtb_of (tb_3 (List.mem_of_getElem? (i := 73) (by decide +kernel))) (by decide +kernel)
theorem tw_554 : (Cond.selects "RobotBus$Bag" y_Bag_isPlaying y_Bag_isPlaying) ∈ gtb := gtb_of (tb_3 (List.mem_of_getElem? (i := 74) (by decide +kernel))) (by decide +kernel)
theorem tw_555 : (Cond.code y_Bag_isPlaying prog_3_method_4_code 1 (some FieldType.boolean)) ∈ gtb := gtb_of (tb_3 (List.mem_of_getElem? (i := 75) rfl)) rfl
theorem tw_556 : (Cond.methodLink "RobotBus" 312 y_Bag_takeNext) ∈ gtb := gtb_of (tb_3 (List.mem_of_getElem? (i := 76) (by decide +kernel))) (by decide +kernel)
theorem tw_557 : (Cond.instanceMethod y_Bag_takeNext) ∈ gtb := gtb_of (tb_3 (List.mem_of_getElem? (i := 77) (by decide +kernel))) (by decide +kernel)
theorem tw_558 : (Cond.selects "RobotBus$Bag" y_Bag_takeNext y_Bag_takeNext) ∈ gtb := gtb_of (tb_3 (List.mem_of_getElem? (i := 78) (by decide +kernel))) (by decide +kernel)
theorem tw_559 : (Cond.code y_Bag_takeNext prog_3_method_6_code 2 (some FieldType.int)) ∈ gtb := gtb_of (tb_3 (List.mem_of_getElem? (i := 79) rfl)) rfl
theorem tw_560 : (Cond.methodLink "RobotBus" 320 y_Bus_spin) ∈ gtb := gtb_of (tb_3 (List.mem_of_getElem? (i := 80) (by decide +kernel))) (by decide +kernel)
theorem tw_562 : (Cond.instanceMethod y_Bus_spin) ∈ gtb := gtb_of (tb_3 (List.mem_of_getElem? (i := 82) (by decide +kernel))) (by decide +kernel)
theorem tw_563 : (Cond.code y_Bus_spin prog_1_method_31_code 5 (Option.none : Option Jvm.ClassFile.FieldType)) ∈ gtb := gtb_of (tb_3 (List.mem_of_getElem? (i := 83) rfl)) rfl
theorem tw_564 : (Cond.methodLink "RobotBus" 324 y_Nod_nextTopic) ∈ gtb := gtb_of (tb_3 (List.mem_of_getElem? (i := 84) (by decide +kernel))) (by decide +kernel)
theorem tw_565 : (Cond.instanceMethod y_Nod_nextTopic) ∈ gtb := gtb_of (tb_3 (List.mem_of_getElem? (i := 85) (by decide +kernel))) (by decide +kernel)
theorem tw_566 : (Cond.selects "RobotBus$Node" y_Nod_nextTopic y_Nod_nextTopic) ∈ gtb := gtb_of (tb_3 (List.mem_of_getElem? (i := 86) (by decide +kernel))) (by decide +kernel)
theorem tw_567 : (Cond.code y_Nod_nextTopic prog_5_method_3_code 3 (some FieldType.int)) ∈ gtb := gtb_of (tb_3 (List.mem_of_getElem? (i := 87) rfl)) rfl
theorem tw_568 : (Cond.methodLink "RobotBus" 327 y_Nod_takeFrom) ∈ gtb := gtb_of (tb_3 (List.mem_of_getElem? (i := 88) (by decide +kernel))) (by decide +kernel)
theorem tw_569 : (Cond.instanceMethod y_Nod_takeFrom) ∈ gtb := gtb_of (tb_3 (List.mem_of_getElem? (i := 89) (by decide +kernel))) (by decide +kernel)
theorem tw_570 : (Cond.selects "RobotBus$Node" y_Nod_takeFrom y_Nod_takeFrom) ∈ gtb := gtb_of (tb_3 (List.mem_of_getElem? (i := 90) (by decide +kernel))) (by decide +kernel)
theorem tw_571 : (Cond.code y_Nod_takeFrom prog_5_method_4_code 3 (some FieldType.int)) ∈ gtb := gtb_of (tb_3 (List.mem_of_getElem? (i := 91) rfl)) rfl
theorem tw_572 : (Cond.methodLink "RobotBus$Node" 47 y_Que_part) ∈ gtb := gtb_of (tb_3 (List.mem_of_getElem? (i := 92) (by decide +kernel))) (by decide +kernel)
theorem tw_573 : (Cond.instanceMethod y_Que_part) ∈ gtb := gtb_of (tb_3 (List.mem_of_getElem? (i := 93) (by decide +kernel))) (by decide +kernel)
theorem tw_574 : (Cond.selects "RobotBus$Queue" y_Que_part y_Que_part) ∈ gtb := gtb_of (tb_3 (List.mem_of_getElem? (i := 94) (by decide +kernel))) (by decide +kernel)
theorem tw_575 : (Cond.code y_Que_part prog_7_method_3_code 3 (some FieldType.int)) ∈ gtb := gtb_of (tb_3 (List.mem_of_getElem? (i := 95) rfl)) rfl
theorem tw_576 : (Cond.methodLink "RobotBus$Node" 51 y_Que_dropOldest) ∈ gtb := gtb_of (tb_3 (List.mem_of_getElem? (i := 96) (by decide +kernel))) (by decide +kernel)
theorem tw_577 : (Cond.methodLink "RobotBus" 330 y_Bus_perform) ∈ gtb := gtb_of (tb_3 (List.mem_of_getElem? (i := 97) (by decide +kernel))) (by decide +kernel)
theorem tw_579 : (Cond.instanceMethod y_Bus_perform) ∈ gtb := gtb_of (tb_3 (List.mem_of_getElem? (i := 99) (by decide +kernel))) (by decide +kernel)
theorem tw_580 : (Cond.code y_Bus_perform prog_1_method_32_code 5 (Option.none : Option Jvm.ClassFile.FieldType)) ∈ gtb := gtb_of (tb_3 (List.mem_of_getElem? (i := 100) rfl)) rfl
theorem tw_581 : (Cond.methodLink "RobotBusLaw" 129 y_Law_variable) ∈ gtb := gtb_of (tb_3 (List.mem_of_getElem? (i := 101) (by decide +kernel))) (by decide +kernel)
theorem tw_582 : (Cond.static y_Law_variable) ∈ gtb := gtb_of (tb_3 (List.mem_of_getElem? (i := 102) (by decide +kernel))) (by decide +kernel)
theorem tw_584 : (Cond.methodLink "RobotBusLaw" 52 y_Bus_variable) ∈ gtb := gtb_of (tb_3 (List.mem_of_getElem? (i := 104) (by decide +kernel))) (by decide +kernel)
theorem tw_585 : (Cond.instanceMethod y_Bus_variable) ∈ gtb := gtb_of (tb_3 (List.mem_of_getElem? (i := 105) (by decide +kernel))) (by decide +kernel)
theorem tw_586 : (Cond.selects "RobotBus" y_Bus_variable y_Bus_variable) ∈ gtb := gtb_of (tb_3 (List.mem_of_getElem? (i := 106) (by decide +kernel))) (by decide +kernel)
theorem tw_587 : (Cond.code y_Bus_variable prog_1_method_12_code 3 (some FieldType.int)) ∈ gtb := gtb_of (tb_3 (List.mem_of_getElem? (i := 107) rfl)) rfl
theorem tw_589 : (Cond.methodLink "RobotBusLaw" 132 y_Law_queued) ∈ gtb := gtb_of (tb_3 (List.mem_of_getElem? (i := 109) (by decide +kernel))) (by decide +kernel)
theorem tw_590 : (Cond.static y_Law_queued) ∈ gtb := gtb_of (tb_3 (List.mem_of_getElem? (i := 110) (by decide +kernel))) (by decide +kernel)
theorem tw_592 : (Cond.methodLink "RobotBusLaw" 55 y_Bus_queued) ∈ gtb := gtb_of (tb_3 (List.mem_of_getElem? (i := 112) (by decide +kernel))) (by decide +kernel)
theorem tw_593 : (Cond.instanceMethod y_Bus_queued) ∈ gtb := gtb_of (tb_3 (List.mem_of_getElem? (i := 113) (by decide +kernel))) (by decide +kernel)
theorem tw_594 : (Cond.selects "RobotBus" y_Bus_queued y_Bus_queued) ∈ gtb := gtb_of (tb_3 (List.mem_of_getElem? (i := 114) (by decide +kernel))) (by decide +kernel)
theorem tw_595 : (Cond.code y_Bus_queued prog_1_method_13_code 6 (some FieldType.int)) ∈ gtb := gtb_of (tb_3 (List.mem_of_getElem? (i := 115) rfl)) rfl
theorem tw_599 : (Cond.methodLink "RobotBus" 225 y_Que_part) ∈ gtb := gtb_of (tb_3 (List.mem_of_getElem? (i := 119) (by decide +kernel))) (by decide +kernel)
theorem tw_600 : (Cond.methodLink "RobotBusLaw" 136 y_Law_keep) ∈ gtb := gtb_of (tb_3 (List.mem_of_getElem? (i := 120) (by decide +kernel))) (by decide +kernel)
theorem tw_601 : (Cond.static y_Law_keep) ∈ gtb := gtb_of (tb_3 (List.mem_of_getElem? (i := 121) (by decide +kernel))) (by decide +kernel)
theorem tw_603 : (Cond.methodLink "RobotBusLaw" 59 y_Bus_keep) ∈ gtb := gtb_of (tb_3 (List.mem_of_getElem? (i := 123) (by decide +kernel))) (by decide +kernel)
theorem tw_604 : (Cond.instanceMethod y_Bus_keep) ∈ gtb := gtb_of (tb_3 (List.mem_of_getElem? (i := 124) (by decide +kernel))) (by decide +kernel)
theorem tw_605 : (Cond.selects "RobotBus" y_Bus_keep y_Bus_keep) ∈ gtb := gtb_of (tb_3 (List.mem_of_getElem? (i := 125) (by decide +kernel))) (by decide +kernel)
theorem tw_606 : (Cond.code y_Bus_keep prog_1_method_14_code 4 (some FieldType.int)) ∈ gtb := gtb_of (tb_3 (List.mem_of_getElem? (i := 126) rfl)) rfl
theorem tw_607 : (Cond.methodLink "RobotBusLaw" 139 y_Law_play) ∈ gtb := gtb_of (tb_3 (List.mem_of_getElem? (i := 127) (by decide +kernel))) (by decide +kernel)
theorem tw_608 : (Cond.static y_Law_play) ∈ gtb := gtb_of (tb_3 (List.mem_of_getElem? (i := 128) (by decide +kernel))) (by decide +kernel)
theorem tw_610 : (Cond.classLink "RobotBusLaw" 65 "java/lang/UnsupportedOperationException") ∈ gtb := gtb_of (tb_3 (List.mem_of_getElem? (i := 130) (by decide +kernel))) (by decide +kernel)
theorem tw_611 : (Cond.methodLink "RobotBusLaw" 62 y_Bus_play) ∈ gtb := gtb_of (tb_3 (List.mem_of_getElem? (i := 131) (by decide +kernel))) (by decide +kernel)
theorem tw_612 : (Cond.instanceMethod y_Bus_play) ∈ gtb := gtb_of (tb_3 (List.mem_of_getElem? (i := 132) (by decide +kernel))) (by decide +kernel)
theorem tw_613 : (Cond.selects "RobotBus" y_Bus_play y_Bus_play) ∈ gtb := gtb_of (tb_3 (List.mem_of_getElem? (i := 133) (by decide +kernel))) (by decide +kernel)
theorem tw_614 : (Cond.code y_Bus_play prog_1_method_15_code 2 (some FieldType.int)) ∈ gtb := gtb_of (tb_3 (List.mem_of_getElem? (i := 134) rfl)) rfl
theorem tw_616 : (Cond.methodLink "RobotBus" 233 y_Bag_isPlaying) ∈ gtb := gtb_of (tb_3 (List.mem_of_getElem? (i := 136) (by decide +kernel))) (by decide +kernel)
theorem tw_618 : (Cond.classLink "RobotBus" 239 "java/lang/UnsupportedOperationException") ∈ gtb := gtb_of (tb_3 (List.mem_of_getElem? (i := 138) (by decide +kernel))) (by decide +kernel)
theorem tw_619 : (Cond.instantiable "java/lang/UnsupportedOperationException" 6) ∈ gtb := gtb_of (tb_3 (List.mem_of_getElem? (i := 139) (by decide +kernel))) (by decide +kernel)
theorem tw_621 : (Cond.selects "java/lang/UnsupportedOperationException" ({ cls := "java/lang/Throwable", name := "fillInStackTrace", desc := "(I)Ljava/lang/Throwable;" } : MethodName) ({ cls := "java/lang/Throwable", name := "fillInStackTrace", desc := "(I)Ljava/lang/Throwable;" } : MethodName)) ∈ gtb := gtb_of (tb_3 (List.mem_of_getElem? (i := 141) (by decide +kernel))) (by decide +kernel)
theorem tw_622 : (Cond.lays "java/lang/UnsupportedOperationException" "java/lang/Throwable" "cause" "Ljava/lang/Throwable;") ∈ gtb := gtb_of (tb_3 (List.mem_of_getElem? (i := 142) (by decide +kernel))) (by decide +kernel)
theorem tw_623 : (Cond.lays "java/lang/UnsupportedOperationException" "java/lang/Throwable" "stackTrace" "[Ljava/lang/StackTraceElement;") ∈ gtb := gtb_of (tb_3 (List.mem_of_getElem? (i := 143) (by decide +kernel))) (by decide +kernel)
theorem tw_624 : (Cond.lays "java/lang/UnsupportedOperationException" "java/lang/Throwable" "suppressedExceptions" "Ljava/util/List;") ∈ gtb := gtb_of (tb_3 (List.mem_of_getElem? (i := 144) (by decide +kernel))) (by decide +kernel)
theorem tw_625 : (Cond.lays "java/lang/UnsupportedOperationException" "java/lang/Throwable" "detailMessage" "Ljava/lang/String;") ∈ gtb := gtb_of (tb_3 (List.mem_of_getElem? (i := 145) (by decide +kernel))) (by decide +kernel)
theorem tw_626 : (Cond.lays "java/lang/UnsupportedOperationException" "java/lang/Throwable" "backtrace" "Ljava/lang/Object;") ∈ gtb := gtb_of (tb_3 (List.mem_of_getElem? (i := 146) (by decide +kernel))) (by decide +kernel)
theorem tw_628 : (Cond.methodLink "RobotBus" 243 ({ cls := "java/lang/UnsupportedOperationException", name := "<init>", desc := "(Ljava/lang/String;)V" } : MethodName)) ∈ gtb := gtb_of (tb_3 (List.mem_of_getElem? (i := 148) (by decide +kernel))) (by decide +kernel)
theorem tw_629 : (Cond.instanceMethod ({ cls := "java/lang/UnsupportedOperationException", name := "<init>", desc := "(Ljava/lang/String;)V" } : MethodName)) ∈ gtb := gtb_of (tb_3 (List.mem_of_getElem? (i := 149) (by decide +kernel))) (by decide +kernel)
theorem tw_630 : (Cond.code ({ cls := "java/lang/UnsupportedOperationException", name := "<init>", desc := "(Ljava/lang/String;)V" } : MethodName) prog_21_method_2_code 2 (Option.none : Option Jvm.ClassFile.FieldType)) ∈ gtb := gtb_of (tb_3 (List.mem_of_getElem? (i := 150) rfl)) rfl
theorem tw_631 : (Cond.methodLink "java/lang/UnsupportedOperationException" 7 ({ cls := "java/lang/RuntimeException", name := "<init>", desc := "(Ljava/lang/String;)V" } : MethodName)) ∈ gtb := gtb_of (tb_3 (List.mem_of_getElem? (i := 151) (by decide +kernel))) (by decide +kernel)
theorem tw_632 : (Cond.lays "java/lang/UnsupportedOperationException" "java/lang/Throwable" "depth" "I") ∈ gtb := gtb_of (tb_3 (List.mem_of_getElem? (i := 152) (by decide +kernel))) (by decide +kernel)
theorem tw_634 : (Cond.methodLink "RobotBus" 244 y_Bag_start) ∈ gtb := gtb_of (tb_3 (List.mem_of_getElem? (i := 154) (by decide +kernel))) (by decide +kernel)
theorem tw_635 : (Cond.instanceMethod y_Bag_start) ∈ gtb := gtb_of (tb_3 (List.mem_of_getElem? (i := 155) (by decide +kernel))) (by decide +kernel)
theorem tw_636 : (Cond.selects "RobotBus$Bag" y_Bag_start y_Bag_start) ∈ gtb := gtb_of (tb_3 (List.mem_of_getElem? (i := 156) (by decide +kernel))) (by decide +kernel)
theorem tw_637 : (Cond.code y_Bag_start prog_3_method_3_code 3 (Option.none : Option Jvm.ClassFile.FieldType)) ∈ gtb := gtb_of (tb_3 (List.mem_of_getElem? (i := 157) rfl)) rfl
theorem tw_638 : (Cond.methodLink "RobotBusLaw" 142 y_Law_empty) ∈ gtb := gtb_of (tb_3 (List.mem_of_getElem? (i := 158) (by decide +kernel))) (by decide +kernel)
theorem tw_639 : (Cond.static y_Law_empty) ∈ gtb := gtb_of (tb_3 (List.mem_of_getElem? (i := 159) (by decide +kernel))) (by decide +kernel)
theorem tw_641 : (Cond.methodLink "RobotBusLaw" 67 y_Bus_empty) ∈ gtb := gtb_of (tb_3 (List.mem_of_getElem? (i := 161) (by decide +kernel))) (by decide +kernel)
theorem tw_642 : (Cond.instanceMethod y_Bus_empty) ∈ gtb := gtb_of (tb_3 (List.mem_of_getElem? (i := 162) (by decide +kernel))) (by decide +kernel)
theorem tw_643 : (Cond.selects "RobotBus" y_Bus_empty y_Bus_empty) ∈ gtb := gtb_of (tb_3 (List.mem_of_getElem? (i := 163) (by decide +kernel))) (by decide +kernel)
theorem tw_644 : (Cond.code y_Bus_empty prog_1_method_16_code 2 (some FieldType.int)) ∈ gtb := gtb_of (tb_3 (List.mem_of_getElem? (i := 164) rfl)) rfl
theorem tw_645 : (Cond.methodLink "RobotBusLaw" 146 y_Law_mount) ∈ gtb := gtb_of (tb_3 (List.mem_of_getElem? (i := 165) (by decide +kernel))) (by decide +kernel)
theorem tw_646 : (Cond.static y_Law_mount) ∈ gtb := gtb_of (tb_3 (List.mem_of_getElem? (i := 166) (by decide +kernel))) (by decide +kernel)
theorem tw_648 : (Cond.methodLink "RobotBusLaw" 71 y_Bus_mount) ∈ gtb := gtb_of (tb_3 (List.mem_of_getElem? (i := 168) (by decide +kernel))) (by decide +kernel)
theorem tw_649 : (Cond.instanceMethod y_Bus_mount) ∈ gtb := gtb_of (tb_3 (List.mem_of_getElem? (i := 169) (by decide +kernel))) (by decide +kernel)
theorem tw_650 : (Cond.selects "RobotBus" y_Bus_mount y_Bus_mount) ∈ gtb := gtb_of (tb_3 (List.mem_of_getElem? (i := 170) (by decide +kernel))) (by decide +kernel)
theorem tw_651 : (Cond.code y_Bus_mount prog_1_method_17_code 4 (some FieldType.int)) ∈ gtb := gtb_of (tb_3 (List.mem_of_getElem? (i := 171) rfl)) rfl
theorem tw_653 : (Cond.methodLink "RobotBus" 250 y_Bus_isAbove) ∈ gtb := gtb_of (tb_3 (List.mem_of_getElem? (i := 173) (by decide +kernel))) (by decide +kernel)
theorem tw_655 : (Cond.instanceMethod y_Bus_isAbove) ∈ gtb := gtb_of (tb_3 (List.mem_of_getElem? (i := 175) (by decide +kernel))) (by decide +kernel)
theorem tw_656 : (Cond.code y_Bus_isAbove prog_1_method_35_code 5 (some FieldType.boolean)) ∈ gtb := gtb_of (tb_3 (List.mem_of_getElem? (i := 176) rfl)) rfl
theorem tw_658 : (Cond.methodLink "RobotBusLaw" 151 y_Law_sample) ∈ gtb := gtb_of (tb_3 (List.mem_of_getElem? (i := 178) (by decide +kernel))) (by decide +kernel)
theorem tw_659 : (Cond.static y_Law_sample) ∈ gtb := gtb_of (tb_3 (List.mem_of_getElem? (i := 179) (by decide +kernel))) (by decide +kernel)
theorem tw_661 : (Cond.methodLink "RobotBusLaw" 74 y_Bus_sample) ∈ gtb := gtb_of (tb_3 (List.mem_of_getElem? (i := 181) (by decide +kernel))) (by decide +kernel)
theorem tw_662 : (Cond.instanceMethod y_Bus_sample) ∈ gtb := gtb_of (tb_3 (List.mem_of_getElem? (i := 182) (by decide +kernel))) (by decide +kernel)
theorem tw_663 : (Cond.selects "RobotBus" y_Bus_sample y_Bus_sample) ∈ gtb := gtb_of (tb_3 (List.mem_of_getElem? (i := 183) (by decide +kernel))) (by decide +kernel)
theorem tw_664 : (Cond.code y_Bus_sample prog_1_method_18_code 8 (some FieldType.int)) ∈ gtb := gtb_of (tb_3 (List.mem_of_getElem? (i := 184) rfl)) rfl
theorem tw_666 : (Cond.methodLink "RobotBus" 261 y_Bus_isCoordinate) ∈ gtb := gtb_of (tb_3 (List.mem_of_getElem? (i := 186) (by decide +kernel))) (by decide +kernel)
theorem tw_667 : (Cond.static y_Bus_isCoordinate) ∈ gtb := gtb_of (tb_3 (List.mem_of_getElem? (i := 187) (by decide +kernel))) (by decide +kernel)
theorem tw_668 : (Cond.code y_Bus_isCoordinate prog_1_method_27_code 2 (some FieldType.boolean)) ∈ gtb := gtb_of (tb_3 (List.mem_of_getElem? (i := 188) rfl)) rfl
theorem tw_669 : (Cond.constantDouble "RobotBus" 299 13875590451928498176) ∈ gtb := gtb_of (tb_3 (List.mem_of_getElem? (i := 189) (by decide +kernel))) (by decide +kernel)
theorem tw_670 : (Cond.constantDouble "RobotBus" 301 4652218415073722368) ∈ gtb := gtb_of (tb_3 (List.mem_of_getElem? (i := 190) (by decide +kernel))) (by decide +kernel)
theorem tw_671 : (Cond.methodLink "RobotBus" 273 y_Bus_toEighths) ∈ gtb := gtb_of (tb_3 (List.mem_of_getElem? (i := 191) (by decide +kernel))) (by decide +kernel)
theorem tw_672 : (Cond.static y_Bus_toEighths) ∈ gtb := gtb_of (tb_3 (List.mem_of_getElem? (i := 192) (by decide +kernel))) (by decide +kernel)
theorem tw_673 : (Cond.code y_Bus_toEighths prog_1_method_28_code 2 (some FieldType.int)) ∈ gtb := gtb_of (tb_3 (List.mem_of_getElem? (i := 193) rfl)) rfl
theorem tw_674 : (Cond.constantDouble "RobotBus" 295 4620693217682128896) ∈ gtb := gtb_of (tb_3 (List.mem_of_getElem? (i := 194) (by decide +kernel))) (by decide +kernel)
theorem tw_675 : (Cond.constant "RobotBus" 265 100000) ∈ gtb := gtb_of (tb_3 (List.mem_of_getElem? (i := 195) (by decide +kernel))) (by decide +kernel)
theorem tw_677 : (Cond.methodLink "RobotBus" 268 y_Frm_isBehindLast) ∈ gtb := gtb_of (tb_3 (List.mem_of_getElem? (i := 197) (by decide +kernel))) (by decide +kernel)
theorem tw_678 : (Cond.instanceMethod y_Frm_isBehindLast) ∈ gtb := gtb_of (tb_3 (List.mem_of_getElem? (i := 198) (by decide +kernel))) (by decide +kernel)
theorem tw_679 : (Cond.selects "RobotBus$Frame" y_Frm_isBehindLast y_Frm_isBehindLast) ∈ gtb := gtb_of (tb_3 (List.mem_of_getElem? (i := 199) (by decide +kernel))) (by decide +kernel)
theorem tw_680 : (Cond.code y_Frm_isBehindLast prog_4_method_2_code 2 (some FieldType.boolean)) ∈ gtb := gtb_of (tb_3 (List.mem_of_getElem? (i := 200) rfl)) rfl
theorem tw_682 : (Cond.methodLink "RobotBus" 277 y_Frm_append) ∈ gtb := gtb_of (tb_3 (List.mem_of_getElem? (i := 202) (by decide +kernel))) (by decide +kernel)
theorem tw_683 : (Cond.instanceMethod y_Frm_append) ∈ gtb := gtb_of (tb_3 (List.mem_of_getElem? (i := 203) (by decide +kernel))) (by decide +kernel)
theorem tw_684 : (Cond.selects "RobotBus$Frame" y_Frm_append y_Frm_append) ∈ gtb := gtb_of (tb_3 (List.mem_of_getElem? (i := 204) (by decide +kernel))) (by decide +kernel)
theorem tw_685 : (Cond.code y_Frm_append prog_4_method_3_code 5 (Option.none : Option Jvm.ClassFile.FieldType)) ∈ gtb := gtb_of (tb_3 (List.mem_of_getElem? (i := 205) rfl)) rfl
theorem tw_686 : (Cond.methodLink "RobotBus$Frame" 31 y_Frm_dropFirst) ∈ gtb := gtb_of (tb_3 (List.mem_of_getElem? (i := 206) (by decide +kernel))) (by decide +kernel)
theorem tw_687 : (Cond.instanceMethod y_Frm_dropFirst) ∈ gtb := gtb_of (tb_3 (List.mem_of_getElem? (i := 207) (by decide +kernel))) (by decide +kernel)
theorem tw_688 : (Cond.selects "RobotBus$Frame" y_Frm_dropFirst y_Frm_dropFirst) ∈ gtb := gtb_of (tb_3 (List.mem_of_getElem? (i := 208) (by decide +kernel))) (by decide +kernel)
theorem tw_689 : (Cond.code y_Frm_dropFirst prog_4_method_4_code 1 (Option.none : Option Jvm.ClassFile.FieldType)) ∈ gtb := gtb_of (tb_3 (List.mem_of_getElem? (i := 209) rfl)) rfl
theorem tw_690 : (Cond.methodLink "RobotBus$Frame" 34 ({ cls := "java/lang/System", name := "arraycopy", desc := "(Ljava/lang/Object;ILjava/lang/Object;II)V" } : MethodName)) ∈ gtb := gtb_of (tb_3 (List.mem_of_getElem? (i := 210) (by decide +kernel))) (by decide +kernel)
theorem tw_691 : (Cond.methodLink "RobotBusLaw" 155 y_Law_locate) ∈ gtb := gtb_of (tb_3 (List.mem_of_getElem? (i := 211) (by decide +kernel))) (by decide +kernel)
theorem tw_692 : (Cond.static y_Law_locate) ∈ gtb := gtb_of (tb_3 (List.mem_of_getElem? (i := 212) (by decide +kernel))) (by decide +kernel)
theorem tw_694 : (Cond.methodLink "RobotBusLaw" 78 y_Bus_locate) ∈ gtb := gtb_of (tb_3 (List.mem_of_getElem? (i := 214) (by decide +kernel))) (by decide +kernel)
theorem tw_695 : (Cond.instanceMethod y_Bus_locate) ∈ gtb := gtb_of (tb_3 (List.mem_of_getElem? (i := 215) (by decide +kernel))) (by decide +kernel)
theorem tw_696 : (Cond.selects "RobotBus" y_Bus_locate y_Bus_locate) ∈ gtb := gtb_of (tb_3 (List.mem_of_getElem? (i := 216) (by decide +kernel))) (by decide +kernel)
theorem tw_697 : (Cond.code y_Bus_locate prog_1_method_19_code 7 (some FieldType.double)) ∈ gtb := gtb_of (tb_3 (List.mem_of_getElem? (i := 217) rfl)) rfl
theorem tw_700 : (Cond.methodLink "RobotBus" 290 y_Bus_liftToRoot) ∈ gtb := gtb_of (tb_3 (List.mem_of_getElem? (i := 220) (by decide +kernel))) (by decide +kernel)
theorem tw_702 : (Cond.instanceMethod y_Bus_liftToRoot) ∈ gtb := gtb_of (tb_3 (List.mem_of_getElem? (i := 222) (by decide +kernel))) (by decide +kernel)
theorem tw_703 : (Cond.code y_Bus_liftToRoot prog_1_method_36_code 6 (some FieldType.boolean)) ∈ gtb := gtb_of (tb_3 (List.mem_of_getElem? (i := 223) rfl)) rfl
theorem tw_704 : (Cond.methodLink "RobotBus" 338 y_Frm_indexAt) ∈ gtb := gtb_of (tb_3 (List.mem_of_getElem? (i := 224) (by decide +kernel))) (by decide +kernel)
theorem tw_705 : (Cond.instanceMethod y_Frm_indexAt) ∈ gtb := gtb_of (tb_3 (List.mem_of_getElem? (i := 225) (by decide +kernel))) (by decide +kernel)
theorem tw_706 : (Cond.selects "RobotBus$Frame" y_Frm_indexAt y_Frm_indexAt) ∈ gtb := gtb_of (tb_3 (List.mem_of_getElem? (i := 226) (by decide +kernel))) (by decide +kernel)
theorem tw_707 : (Cond.code y_Frm_indexAt prog_4_method_5_code 4 (some FieldType.int)) ∈ gtb := gtb_of (tb_3 (List.mem_of_getElem? (i := 227) rfl)) rfl
theorem tw_708 : (Cond.methodLink "RobotBus$Frame" 40 y_Frm_isBehindLast) ∈ gtb := gtb_of (tb_3 (List.mem_of_getElem? (i := 228) (by decide +kernel))) (by decide +kernel)
theorem tw_709 : (Cond.methodLink "RobotBus" 341 y_Pnt_lift) ∈ gtb := gtb_of (tb_3 (List.mem_of_getElem? (i := 229) (by decide +kernel))) (by decide +kernel)
theorem tw_710 : (Cond.instanceMethod y_Pnt_lift) ∈ gtb := gtb_of (tb_3 (List.mem_of_getElem? (i := 230) (by decide +kernel))) (by decide +kernel)
theorem tw_711 : (Cond.selects "RobotBus$Point" y_Pnt_lift y_Pnt_lift) ∈ gtb := gtb_of (tb_3 (List.mem_of_getElem? (i := 231) (by decide +kernel))) (by decide +kernel)
theorem tw_712 : (Cond.code y_Pnt_lift prog_6_method_2_code 4 (Option.none : Option Jvm.ClassFile.FieldType)) ∈ gtb := gtb_of (tb_3 (List.mem_of_getElem? (i := 232) rfl)) rfl
theorem tw_713 : (Cond.methodLink "RobotBus$Point" 22 y_Pnt_turnBy) ∈ gtb := gtb_of (tb_3 (List.mem_of_getElem? (i := 233) (by decide +kernel))) (by decide +kernel)
theorem tw_714 : (Cond.instanceMethod y_Pnt_turnBy) ∈ gtb := gtb_of (tb_3 (List.mem_of_getElem? (i := 234) (by decide +kernel))) (by decide +kernel)
theorem tw_715 : (Cond.selects "RobotBus$Point" y_Pnt_turnBy y_Pnt_turnBy) ∈ gtb := gtb_of (tb_3 (List.mem_of_getElem? (i := 235) (by decide +kernel))) (by decide +kernel)
theorem tw_716 : (Cond.code y_Pnt_turnBy prog_6_method_3_code 4 (Option.none : Option Jvm.ClassFile.FieldType)) ∈ gtb := gtb_of (tb_3 (List.mem_of_getElem? (i := 236) rfl)) rfl
theorem tw_717 : (Cond.methodLink "RobotBus$Point" 29 y_Frm_between) ∈ gtb := gtb_of (tb_3 (List.mem_of_getElem? (i := 237) (by decide +kernel))) (by decide +kernel)
theorem tw_718 : (Cond.instanceMethod y_Frm_between) ∈ gtb := gtb_of (tb_3 (List.mem_of_getElem? (i := 238) (by decide +kernel))) (by decide +kernel)
theorem tw_719 : (Cond.selects "RobotBus$Frame" y_Frm_between y_Frm_between) ∈ gtb := gtb_of (tb_3 (List.mem_of_getElem? (i := 239) (by decide +kernel))) (by decide +kernel)
theorem tw_720 : (Cond.code y_Frm_between prog_4_method_6_code 7 (some FieldType.int)) ∈ gtb := gtb_of (tb_4 (List.mem_of_getElem? (i := 0) rfl)) rfl
theorem tw_721 : (Cond.methodLink "RobotBus$Frame" 44 y_Math_floorDiv) ∈ gtb := gtb_of (tb_4 (List.mem_of_getElem? (i := 1) (by decide +kernel))) (by decide +kernel)
theorem tw_722 : (Cond.static y_Math_floorDiv) ∈ gtb := gtb_of (tb_4 (List.mem_of_getElem? (i := 2) (by decide +kernel))) (by decide +kernel)
theorem tw_723 : (Cond.code y_Math_floorDiv prog_16_method_49_code 6 (some FieldType.long)) ∈ gtb := gtb_of (tb_4 (List.mem_of_getElem? (i := 3) rfl)) rfl
theorem tw_725 : (Cond.methodLink "RobotBusLaw" 164 y_Law_count) ∈ gtb := gtb_of (tb_4 (List.mem_of_getElem? (i := 5) (by decide +kernel))) (by decide +kernel)
theorem tw_726 : (Cond.static y_Law_count) ∈ gtb := gtb_of (tb_4 (List.mem_of_getElem? (i := 6) (by decide +kernel))) (by decide +kernel)
theorem tw_728 : (Cond.methodLink "RobotBusLaw" 82 y_Bus_count) ∈ gtb := gtb_of (tb_4 (List.mem_of_getElem? (i := 8) (by decide +kernel))) (by decide +kernel)
theorem tw_729 : (Cond.instanceMethod y_Bus_count) ∈ gtb := gtb_of (tb_4 (List.mem_of_getElem? (i := 9) (by decide +kernel))) (by decide +kernel)
theorem tw_730 : (Cond.selects "RobotBus" y_Bus_count y_Bus_count) ∈ gtb := gtb_of (tb_4 (List.mem_of_getElem? (i := 10) (by decide +kernel))) (by decide +kernel)
theorem tw_731 : (Cond.code y_Bus_count prog_1_method_21_code 2 (some FieldType.int)) ∈ gtb := gtb_of (tb_4 (List.mem_of_getElem? (i := 11) rfl)) rfl
theorem tw_733 : (Cond.classLink "RobotBusLaw" 86 "RobotBusModel") ∈ gtb := gtb_of (tb_4 (List.mem_of_getElem? (i := 13) (by decide +kernel))) (by decide +kernel)
theorem tw_734 : (Cond.instantiable "RobotBusModel" 46) ∈ gtb := gtb_of (tb_4 (List.mem_of_getElem? (i := 14) (by decide +kernel))) (by decide +kernel)
theorem tw_735 : (Cond.methodLink "RobotBusLaw" 88 y_Mdl_init) ∈ gtb := gtb_of (tb_4 (List.mem_of_getElem? (i := 15) (by decide +kernel))) (by decide +kernel)
theorem tw_736 : (Cond.instanceMethod y_Mdl_init) ∈ gtb := gtb_of (tb_4 (List.mem_of_getElem? (i := 16) (by decide +kernel))) (by decide +kernel)
theorem tw_737 : (Cond.code y_Mdl_init prog_11_method_1_code 2 (Option.none : Option Jvm.ClassFile.FieldType)) ∈ gtb := gtb_of (tb_4 (List.mem_of_getElem? (i := 17) rfl)) rfl
theorem tw_738 : (Cond.methodLink "RobotBusModel" 1 ({ cls := "java/lang/Object", name := "<init>", desc := "()V" } : MethodName)) ∈ gtb := gtb_of (tb_4 (List.mem_of_getElem? (i := 18) (by decide +kernel))) (by decide +kernel)
theorem tw_739 : (Cond.fieldLink "RobotBusModel" 102 "RobotBusModel" "thrown" "I") ∈ gtb := gtb_of (tb_4 (List.mem_of_getElem? (i := 19) (by decide +kernel))) (by decide +kernel)
theorem tw_740 : (Cond.fieldLink "RobotBusModel" 128 "RobotBusModel" "clock" "I") ∈ gtb := gtb_of (tb_4 (List.mem_of_getElem? (i := 20) (by decide +kernel))) (by decide +kernel)
theorem tw_741 : (Cond.fieldLink "RobotBusModel" 7 "RobotBusModel" "there" "[Z") ∈ gtb := gtb_of (tb_4 (List.mem_of_getElem? (i := 21) (by decide +kernel))) (by decide +kernel)
theorem tw_742 : (Cond.fieldLink "RobotBusModel" 13 "RobotBusModel" "vars" "[I") ∈ gtb := gtb_of (tb_4 (List.mem_of_getElem? (i := 22) (by decide +kernel))) (by decide +kernel)
theorem tw_743 : (Cond.fieldLink "RobotBusModel" 17 "RobotBusModel" "took" "[I") ∈ gtb := gtb_of (tb_4 (List.mem_of_getElem? (i := 23) (by decide +kernel))) (by decide +kernel)
theorem tw_744 : (Cond.fieldLink "RobotBusModel" 20 "RobotBusModel" "depth" "[I") ∈ gtb := gtb_of (tb_4 (List.mem_of_getElem? (i := 24) (by decide +kernel))) (by decide +kernel)
theorem tw_745 : (Cond.fieldLink "RobotBusModel" 23 "RobotBusModel" "waiting" "[I") ∈ gtb := gtb_of (tb_4 (List.mem_of_getElem? (i := 25) (by decide +kernel))) (by decide +kernel)
theorem tw_746 : (Cond.fieldLink "RobotBusModel" 26 "RobotBusModel" "value" "[I") ∈ gtb := gtb_of (tb_4 (List.mem_of_getElem? (i := 26) (by decide +kernel))) (by decide +kernel)
theorem tw_747 : (Cond.fieldLink "RobotBusModel" 29 "RobotBusModel" "sender" "[I") ∈ gtb := gtb_of (tb_4 (List.mem_of_getElem? (i := 27) (by decide +kernel))) (by decide +kernel)
theorem tw_748 : (Cond.fieldLink "RobotBusModel" 32 "RobotBusModel" "stamp" "[I") ∈ gtb := gtb_of (tb_4 (List.mem_of_getElem? (i := 28) (by decide +kernel))) (by decide +kernel)
theorem tw_749 : (Cond.fieldLink "RobotBusModel" 35 "RobotBusModel" "aKind" "[I") ∈ gtb := gtb_of (tb_4 (List.mem_of_getElem? (i := 29) (by decide +kernel))) (by decide +kernel)
theorem tw_750 : (Cond.fieldLink "RobotBusModel" 38 "RobotBusModel" "aA" "[I") ∈ gtb := gtb_of (tb_4 (List.mem_of_getElem? (i := 30) (by decide +kernel))) (by decide +kernel)
theorem tw_751 : (Cond.fieldLink "RobotBusModel" 41 "RobotBusModel" "aB" "[I") ∈ gtb := gtb_of (tb_4 (List.mem_of_getElem? (i := 31) (by decide +kernel))) (by decide +kernel)
theorem tw_752 : (Cond.fieldLink "RobotBusModel" 44 "RobotBusModel" "latched" "[Z") ∈ gtb := gtb_of (tb_4 (List.mem_of_getElem? (i := 32) (by decide +kernel))) (by decide +kernel)
theorem tw_753 : (Cond.fieldLink "RobotBusModel" 47 "RobotBusModel" "hasLast" "[Z") ∈ gtb := gtb_of (tb_4 (List.mem_of_getElem? (i := 33) (by decide +kernel))) (by decide +kernel)
theorem tw_754 : (Cond.fieldLink "RobotBusModel" 50 "RobotBusModel" "lastValue" "[I") ∈ gtb := gtb_of (tb_4 (List.mem_of_getElem? (i := 34) (by decide +kernel))) (by decide +kernel)
theorem tw_755 : (Cond.fieldLink "RobotBusModel" 53 "RobotBusModel" "lastSender" "[I") ∈ gtb := gtb_of (tb_4 (List.mem_of_getElem? (i := 35) (by decide +kernel))) (by decide +kernel)
theorem tw_756 : (Cond.fieldLink "RobotBusModel" 56 "RobotBusModel" "lastStamp" "[I") ∈ gtb := gtb_of (tb_4 (List.mem_of_getElem? (i := 36) (by decide +kernel))) (by decide +kernel)
theorem tw_757 : (Cond.fieldLink "RobotBusModel" 59 "RobotBusModel" "kept" "[Z") ∈ gtb := gtb_of (tb_4 (List.mem_of_getElem? (i := 37) (by decide +kernel))) (by decide +kernel)
theorem tw_758 : (Cond.fieldLink "RobotBusModel" 62 "RobotBusModel" "by" "[I") ∈ gtb := gtb_of (tb_4 (List.mem_of_getElem? (i := 38) (by decide +kernel))) (by decide +kernel)
theorem tw_759 : (Cond.fieldLink "RobotBusModel" 65 "RobotBusModel" "sKind" "[I") ∈ gtb := gtb_of (tb_4 (List.mem_of_getElem? (i := 39) (by decide +kernel))) (by decide +kernel)
theorem tw_760 : (Cond.fieldLink "RobotBusModel" 68 "RobotBusModel" "sC" "[I") ∈ gtb := gtb_of (tb_4 (List.mem_of_getElem? (i := 40) (by decide +kernel))) (by decide +kernel)
theorem tw_761 : (Cond.fieldLink "RobotBusModel" 71 "RobotBusModel" "sD" "[I") ∈ gtb := gtb_of (tb_4 (List.mem_of_getElem? (i := 41) (by decide +kernel))) (by decide +kernel)
theorem tw_762 : (Cond.fieldLink "RobotBusModel" 74 "RobotBusModel" "bagTime" "[I") ∈ gtb := gtb_of (tb_4 (List.mem_of_getElem? (i := 42) (by decide +kernel))) (by decide +kernel)
theorem tw_763 : (Cond.fieldLink "RobotBusModel" 77 "RobotBusModel" "bagTopic" "[I") ∈ gtb := gtb_of (tb_4 (List.mem_of_getElem? (i := 43) (by decide +kernel))) (by decide +kernel)
theorem tw_764 : (Cond.fieldLink "RobotBusModel" 80 "RobotBusModel" "bagValue" "[I") ∈ gtb := gtb_of (tb_4 (List.mem_of_getElem? (i := 44) (by decide +kernel))) (by decide +kernel)
theorem tw_765 : (Cond.fieldLink "RobotBusModel" 135 "RobotBusModel" "bag" "I") ∈ gtb := gtb_of (tb_4 (List.mem_of_getElem? (i := 45) (by decide +kernel))) (by decide +kernel)
theorem tw_766 : (Cond.fieldLink "RobotBusModel" 156 "RobotBusModel" "playing" "Z") ∈ gtb := gtb_of (tb_4 (List.mem_of_getElem? (i := 46) (by decide +kernel))) (by decide +kernel)
theorem tw_767 : (Cond.fieldLink "RobotBusModel" 163 "RobotBusModel" "began" "I") ∈ gtb := gtb_of (tb_4 (List.mem_of_getElem? (i := 47) (by decide +kernel))) (by decide +kernel)
theorem tw_768 : (Cond.fieldLink "RobotBusModel" 166 "RobotBusModel" "speed" "I") ∈ gtb := gtb_of (tb_4 (List.mem_of_getElem? (i := 48) (by decide +kernel))) (by decide +kernel)
theorem tw_769 : (Cond.fieldLink "RobotBusModel" 160 "RobotBusModel" "nextRecord" "I") ∈ gtb := gtb_of (tb_4 (List.mem_of_getElem? (i := 49) (by decide +kernel))) (by decide +kernel)
theorem tw_770 : (Cond.fieldLink "RobotBusModel" 169 "RobotBusModel" "lastRecord" "I") ∈ gtb := gtb_of (tb_4 (List.mem_of_getElem? (i := 50) (by decide +kernel))) (by decide +kernel)
theorem tw_771 : (Cond.fieldLink "RobotBusModel" 83 "RobotBusModel" "parent" "[I") ∈ gtb := gtb_of (tb_4 (List.mem_of_getElem? (i := 51) (by decide +kernel))) (by decide +kernel)
theorem tw_772 : (Cond.fieldLink "RobotBusModel" 86 "RobotBusModel" "samples" "[I") ∈ gtb := gtb_of (tb_4 (List.mem_of_getElem? (i := 52) (by decide +kernel))) (by decide +kernel)
theorem tw_773 : (Cond.fieldLink "RobotBusModel" 89 "RobotBusModel" "sTime" "[I") ∈ gtb := gtb_of (tb_4 (List.mem_of_getElem? (i := 53) (by decide +kernel))) (by decide +kernel)
theorem tw_774 : (Cond.fieldLink "RobotBusModel" 92 "RobotBusModel" "sX" "[J") ∈ gtb := gtb_of (tb_4 (List.mem_of_getElem? (i := 54) (by decide +kernel))) (by decide +kernel)
theorem tw_775 : (Cond.fieldLink "RobotBusModel" 96 "RobotBusModel" "sY" "[J") ∈ gtb := gtb_of (tb_4 (List.mem_of_getElem? (i := 55) (by decide +kernel))) (by decide +kernel)
theorem tw_776 : (Cond.fieldLink "RobotBusModel" 99 "RobotBusModel" "sTurn" "[I") ∈ gtb := gtb_of (tb_4 (List.mem_of_getElem? (i := 56) (by decide +kernel))) (by decide +kernel)
theorem tw_777 : (Cond.fieldLink "RobotBusModel" 203 "RobotBusModel" "px" "J") ∈ gtb := gtb_of (tb_4 (List.mem_of_getElem? (i := 57) (by decide +kernel))) (by decide +kernel)
theorem tw_778 : (Cond.fieldLink "RobotBusModel" 207 "RobotBusModel" "py" "J") ∈ gtb := gtb_of (tb_4 (List.mem_of_getElem? (i := 58) (by decide +kernel))) (by decide +kernel)
theorem tw_779 : (Cond.fieldLink "RobotBusModel" 216 "RobotBusModel" "lastY" "D") ∈ gtb := gtb_of (tb_4 (List.mem_of_getElem? (i := 59) (by decide +kernel))) (by decide +kernel)
theorem tw_780 : (Cond.fieldLink "RobotBusModel" 122 "RobotBusModel" "lost" "I") ∈ gtb := gtb_of (tb_4 (List.mem_of_getElem? (i := 60) (by decide +kernel))) (by decide +kernel)
theorem tw_781 : (Cond.fieldLink "RobotBusModel" 125 "RobotBusModel" "published" "I") ∈ gtb := gtb_of (tb_4 (List.mem_of_getElem? (i := 61) (by decide +kernel))) (by decide +kernel)
theorem tw_782 : (Cond.fieldLink "RobotBusModel" 172 "RobotBusModel" "actions" "I") ∈ gtb := gtb_of (tb_4 (List.mem_of_getElem? (i := 62) (by decide +kernel))) (by decide +kernel)
theorem tw_783 : (Cond.fieldLink "RobotBusModel" 175 "RobotBusModel" "failures" "I") ∈ gtb := gtb_of (tb_4 (List.mem_of_getElem? (i := 63) (by decide +kernel))) (by decide +kernel)
theorem tw_784 : (Cond.fieldLink "RobotBusModel" 149 "RobotBusModel" "trouble" "I") ∈ gtb := gtb_of (tb_4 (List.mem_of_getElem? (i := 64) (by decide +kernel))) (by decide +kernel)
theorem tw_785 : (Cond.lays "RobotBusModel" "RobotBusModel" "thrown" "I") ∈ gtb := gtb_of (tb_4 (List.mem_of_getElem? (i := 65) (by decide +kernel))) (by decide +kernel)
theorem tw_787 : (Cond.lays "RobotBusModel" "RobotBusModel" "clock" "I") ∈ gtb := gtb_of (tb_4 (List.mem_of_getElem? (i := 67) (by decide +kernel))) (by decide +kernel)
theorem tw_789 : (Cond.laysFinal "RobotBusModel" "RobotBusModel" "there" "[Z") ∈ gtb := gtb_of (tb_4 (List.mem_of_getElem? (i := 69) (by decide +kernel))) (by decide +kernel)
theorem tw_791 : (Cond.laysFinal "RobotBusModel" "RobotBusModel" "vars" "[I") ∈ gtb := gtb_of (tb_4 (List.mem_of_getElem? (i := 71) (by decide +kernel))) (by decide +kernel)
theorem tw_793 : (Cond.laysFinal "RobotBusModel" "RobotBusModel" "took" "[I") ∈ gtb := gtb_of (tb_4 (List.mem_of_getElem? (i := 73) (by decide +kernel))) (by decide +kernel)
theorem tw_795 : (Cond.laysFinal "RobotBusModel" "RobotBusModel" "depth" "[I") ∈ gtb := gtb_of (tb_4 (List.mem_of_getElem? (i := 75) (by decide +kernel))) (by decide +kernel)
theorem tw_797 : (Cond.laysFinal "RobotBusModel" "RobotBusModel" "waiting" "[I") ∈ gtb := gtb_of (tb_4 (List.mem_of_getElem? (i := 77) (by decide +kernel))) (by decide +kernel)
theorem tw_799 : (Cond.laysFinal "RobotBusModel" "RobotBusModel" "value" "[I") ∈ gtb := gtb_of (tb_4 (List.mem_of_getElem? (i := 79) (by decide +kernel))) (by decide +kernel)
theorem tw_801 : (Cond.laysFinal "RobotBusModel" "RobotBusModel" "sender" "[I") ∈ gtb := gtb_of (tb_4 (List.mem_of_getElem? (i := 81) (by decide +kernel))) (by decide +kernel)
theorem tw_803 : (Cond.laysFinal "RobotBusModel" "RobotBusModel" "stamp" "[I") ∈ gtb := gtb_of (tb_4 (List.mem_of_getElem? (i := 83) (by decide +kernel))) (by decide +kernel)
theorem tw_805 : (Cond.laysFinal "RobotBusModel" "RobotBusModel" "aKind" "[I") ∈ gtb := gtb_of (tb_4 (List.mem_of_getElem? (i := 85) (by decide +kernel))) (by decide +kernel)
theorem tw_807 : (Cond.laysFinal "RobotBusModel" "RobotBusModel" "aA" "[I") ∈ gtb := gtb_of (tb_4 (List.mem_of_getElem? (i := 87) (by decide +kernel))) (by decide +kernel)
theorem tw_809 : (Cond.laysFinal "RobotBusModel" "RobotBusModel" "aB" "[I") ∈ gtb := gtb_of (tb_4 (List.mem_of_getElem? (i := 89) (by decide +kernel))) (by decide +kernel)
theorem tw_811 : (Cond.laysFinal "RobotBusModel" "RobotBusModel" "latched" "[Z") ∈ gtb := gtb_of (tb_4 (List.mem_of_getElem? (i := 91) (by decide +kernel))) (by decide +kernel)
theorem tw_813 : (Cond.laysFinal "RobotBusModel" "RobotBusModel" "hasLast" "[Z") ∈ gtb := gtb_of (tb_4 (List.mem_of_getElem? (i := 93) (by decide +kernel))) (by decide +kernel)
theorem tw_815 : (Cond.laysFinal "RobotBusModel" "RobotBusModel" "lastValue" "[I") ∈ gtb := gtb_of (tb_4 (List.mem_of_getElem? (i := 95) (by decide +kernel))) (by decide +kernel)
theorem tw_817 : (Cond.laysFinal "RobotBusModel" "RobotBusModel" "lastSender" "[I") ∈ gtb := gtb_of (tb_4 (List.mem_of_getElem? (i := 97) (by decide +kernel))) (by decide +kernel)
theorem tw_819 : (Cond.laysFinal "RobotBusModel" "RobotBusModel" "lastStamp" "[I") ∈ gtb := gtb_of (tb_4 (List.mem_of_getElem? (i := 99) (by decide +kernel))) (by decide +kernel)
theorem tw_821 : (Cond.laysFinal "RobotBusModel" "RobotBusModel" "kept" "[Z") ∈ gtb := gtb_of (tb_4 (List.mem_of_getElem? (i := 101) (by decide +kernel))) (by decide +kernel)
theorem tw_823 : (Cond.laysFinal "RobotBusModel" "RobotBusModel" "by" "[I") ∈ gtb := gtb_of (tb_4 (List.mem_of_getElem? (i := 103) (by decide +kernel))) (by decide +kernel)
theorem tw_825 : (Cond.laysFinal "RobotBusModel" "RobotBusModel" "sKind" "[I") ∈ gtb := gtb_of (tb_4 (List.mem_of_getElem? (i := 105) (by decide +kernel))) (by decide +kernel)
theorem tw_827 : (Cond.laysFinal "RobotBusModel" "RobotBusModel" "sC" "[I") ∈ gtb := gtb_of (tb_4 (List.mem_of_getElem? (i := 107) (by decide +kernel))) (by decide +kernel)
theorem tw_829 : (Cond.laysFinal "RobotBusModel" "RobotBusModel" "sD" "[I") ∈ gtb := gtb_of (tb_4 (List.mem_of_getElem? (i := 109) (by decide +kernel))) (by decide +kernel)
theorem tw_831 : (Cond.laysFinal "RobotBusModel" "RobotBusModel" "bagTime" "[I") ∈ gtb := gtb_of (tb_4 (List.mem_of_getElem? (i := 111) (by decide +kernel))) (by decide +kernel)
theorem tw_833 : (Cond.laysFinal "RobotBusModel" "RobotBusModel" "bagTopic" "[I") ∈ gtb := gtb_of (tb_4 (List.mem_of_getElem? (i := 113) (by decide +kernel))) (by decide +kernel)
theorem tw_835 : (Cond.laysFinal "RobotBusModel" "RobotBusModel" "bagValue" "[I") ∈ gtb := gtb_of (tb_4 (List.mem_of_getElem? (i := 115) (by decide +kernel))) (by decide +kernel)
theorem tw_837 : (Cond.lays "RobotBusModel" "RobotBusModel" "bag" "I") ∈ gtb := gtb_of (tb_4 (List.mem_of_getElem? (i := 117) (by decide +kernel))) (by decide +kernel)
theorem tw_839 : (Cond.lays "RobotBusModel" "RobotBusModel" "playing" "Z") ∈ gtb := gtb_of (tb_4 (List.mem_of_getElem? (i := 119) (by decide +kernel))) (by decide +kernel)
theorem tw_841 : (Cond.lays "RobotBusModel" "RobotBusModel" "began" "I") ∈ gtb := gtb_of (tb_4 (List.mem_of_getElem? (i := 121) (by decide +kernel))) (by decide +kernel)
theorem tw_843 : (Cond.lays "RobotBusModel" "RobotBusModel" "speed" "I") ∈ gtb := gtb_of (tb_4 (List.mem_of_getElem? (i := 123) (by decide +kernel))) (by decide +kernel)
theorem tw_845 : (Cond.lays "RobotBusModel" "RobotBusModel" "nextRecord" "I") ∈ gtb := gtb_of (tb_4 (List.mem_of_getElem? (i := 125) (by decide +kernel))) (by decide +kernel)
theorem tw_847 : (Cond.lays "RobotBusModel" "RobotBusModel" "lastRecord" "I") ∈ gtb := gtb_of (tb_4 (List.mem_of_getElem? (i := 127) (by decide +kernel))) (by decide +kernel)
theorem tw_849 : (Cond.laysFinal "RobotBusModel" "RobotBusModel" "parent" "[I") ∈ gtb := gtb_of (tb_4 (List.mem_of_getElem? (i := 129) (by decide +kernel))) (by decide +kernel)
theorem tw_851 : (Cond.laysFinal "RobotBusModel" "RobotBusModel" "samples" "[I") ∈ gtb := gtb_of (tb_4 (List.mem_of_getElem? (i := 131) (by decide +kernel))) (by decide +kernel)
theorem tw_853 : (Cond.laysFinal "RobotBusModel" "RobotBusModel" "sTime" "[I") ∈ gtb := gtb_of (tb_4 (List.mem_of_getElem? (i := 133) (by decide +kernel))) (by decide +kernel)
theorem tw_855 : (Cond.laysFinal "RobotBusModel" "RobotBusModel" "sX" "[J") ∈ gtb := gtb_of (tb_4 (List.mem_of_getElem? (i := 135) (by decide +kernel))) (by decide +kernel)
theorem tw_857 : (Cond.laysFinal "RobotBusModel" "RobotBusModel" "sY" "[J") ∈ gtb := gtb_of (tb_4 (List.mem_of_getElem? (i := 137) (by decide +kernel))) (by decide +kernel)
theorem tw_859 : (Cond.laysFinal "RobotBusModel" "RobotBusModel" "sTurn" "[I") ∈ gtb := gtb_of (tb_4 (List.mem_of_getElem? (i := 139) (by decide +kernel))) (by decide +kernel)
theorem tw_861 : (Cond.lays "RobotBusModel" "RobotBusModel" "px" "J") ∈ gtb := gtb_of (tb_4 (List.mem_of_getElem? (i := 141) (by decide +kernel))) (by decide +kernel)
theorem tw_863 : (Cond.lays "RobotBusModel" "RobotBusModel" "py" "J") ∈ gtb := gtb_of (tb_4 (List.mem_of_getElem? (i := 143) (by decide +kernel))) (by decide +kernel)
theorem tw_865 : (Cond.lays "RobotBusModel" "RobotBusModel" "lastY" "D") ∈ gtb := gtb_of (tb_4 (List.mem_of_getElem? (i := 145) (by decide +kernel))) (by decide +kernel)
theorem tw_867 : (Cond.lays "RobotBusModel" "RobotBusModel" "lost" "I") ∈ gtb := gtb_of (tb_4 (List.mem_of_getElem? (i := 147) (by decide +kernel))) (by decide +kernel)
theorem tw_869 : (Cond.lays "RobotBusModel" "RobotBusModel" "published" "I") ∈ gtb := gtb_of (tb_4 (List.mem_of_getElem? (i := 149) (by decide +kernel))) (by decide +kernel)
theorem tw_871 : (Cond.lays "RobotBusModel" "RobotBusModel" "actions" "I") ∈ gtb := gtb_of (tb_4 (List.mem_of_getElem? (i := 151) (by decide +kernel))) (by decide +kernel)
theorem tw_873 : (Cond.lays "RobotBusModel" "RobotBusModel" "failures" "I") ∈ gtb := gtb_of (tb_4 (List.mem_of_getElem? (i := 153) (by decide +kernel))) (by decide +kernel)
theorem tw_875 : (Cond.lays "RobotBusModel" "RobotBusModel" "trouble" "I") ∈ gtb := gtb_of (tb_4 (List.mem_of_getElem? (i := 155) (by decide +kernel))) (by decide +kernel)
theorem tw_878 : (Cond.arrayClass FieldType.boolean) ∈ gtb := gtb_of (tb_4 (List.mem_of_getElem? (i := 158) (by decide +kernel))) (by decide +kernel)
theorem tw_879 : (Cond.arrayClass FieldType.long) ∈ gtb := gtb_of (tb_4 (List.mem_of_getElem? (i := 159) (by decide +kernel))) (by decide +kernel)
theorem tw_880 : (Cond.methodLink "RobotBusLaw" 95 y_Mdl_thrown) ∈ gtb := gtb_of (tb_4 (List.mem_of_getElem? (i := 160) (by decide +kernel))) (by decide +kernel)
theorem tw_881 : (Cond.instanceMethod y_Mdl_thrown) ∈ gtb := gtb_of (tb_4 (List.mem_of_getElem? (i := 161) (by decide +kernel))) (by decide +kernel)
theorem tw_882 : (Cond.selects "RobotBusModel" y_Mdl_thrown y_Mdl_thrown) ∈ gtb := gtb_of (tb_4 (List.mem_of_getElem? (i := 162) (by decide +kernel))) (by decide +kernel)
theorem tw_883 : (Cond.code y_Mdl_thrown prog_11_method_2_code 1 (some FieldType.int)) ∈ gtb := gtb_of (tb_4 (List.mem_of_getElem? (i := 163) rfl)) rfl
theorem tw_884 : (Cond.methodLink "RobotBusLaw" 94 y_Mdl_join) ∈ gtb := gtb_of (tb_4 (List.mem_of_getElem? (i := 164) (by decide +kernel))) (by decide +kernel)
theorem tw_885 : (Cond.instanceMethod y_Mdl_join) ∈ gtb := gtb_of (tb_4 (List.mem_of_getElem? (i := 165) (by decide +kernel))) (by decide +kernel)
theorem tw_886 : (Cond.selects "RobotBusModel" y_Mdl_join y_Mdl_join) ∈ gtb := gtb_of (tb_4 (List.mem_of_getElem? (i := 166) (by decide +kernel))) (by decide +kernel)
theorem tw_887 : (Cond.code y_Mdl_join prog_11_method_6_code 3 (some FieldType.int)) ∈ gtb := gtb_of (tb_4 (List.mem_of_getElem? (i := 167) rfl)) rfl
theorem tw_888 : (Cond.methodLink "RobotBusModel" 106 y_Mdl_in) ∈ gtb := gtb_of (tb_4 (List.mem_of_getElem? (i := 168) (by decide +kernel))) (by decide +kernel)
theorem tw_889 : (Cond.static y_Mdl_in) ∈ gtb := gtb_of (tb_4 (List.mem_of_getElem? (i := 169) (by decide +kernel))) (by decide +kernel)
theorem tw_890 : (Cond.code y_Mdl_in prog_11_method_4_code 3 (some FieldType.boolean)) ∈ gtb := gtb_of (tb_4 (List.mem_of_getElem? (i := 170) rfl)) rfl
theorem tw_891 : (Cond.methodLink "RobotBusModel" 110 y_Mdl_raise) ∈ gtb := gtb_of (tb_4 (List.mem_of_getElem? (i := 171) (by decide +kernel))) (by decide +kernel)
theorem tw_893 : (Cond.instanceMethod y_Mdl_raise) ∈ gtb := gtb_of (tb_4 (List.mem_of_getElem? (i := 173) (by decide +kernel))) (by decide +kernel)
theorem tw_894 : (Cond.code y_Mdl_raise prog_11_method_3_code 2 (some FieldType.int)) ∈ gtb := gtb_of (tb_4 (List.mem_of_getElem? (i := 174) rfl)) rfl
theorem tw_895 : (Cond.methodLink "RobotBusLaw" 100 y_Mdl_leave) ∈ gtb := gtb_of (tb_4 (List.mem_of_getElem? (i := 175) (by decide +kernel))) (by decide +kernel)
theorem tw_896 : (Cond.instanceMethod y_Mdl_leave) ∈ gtb := gtb_of (tb_4 (List.mem_of_getElem? (i := 176) (by decide +kernel))) (by decide +kernel)
theorem tw_897 : (Cond.selects "RobotBusModel" y_Mdl_leave y_Mdl_leave) ∈ gtb := gtb_of (tb_4 (List.mem_of_getElem? (i := 177) (by decide +kernel))) (by decide +kernel)
theorem tw_898 : (Cond.code y_Mdl_leave prog_11_method_7_code 4 (some FieldType.int)) ∈ gtb := gtb_of (tb_4 (List.mem_of_getElem? (i := 178) rfl)) rfl
theorem tw_899 : (Cond.methodLink "RobotBusModel" 114 y_Mdl_noNode) ∈ gtb := gtb_of (tb_4 (List.mem_of_getElem? (i := 179) (by decide +kernel))) (by decide +kernel)
theorem tw_901 : (Cond.instanceMethod y_Mdl_noNode) ∈ gtb := gtb_of (tb_4 (List.mem_of_getElem? (i := 181) (by decide +kernel))) (by decide +kernel)
theorem tw_902 : (Cond.code y_Mdl_noNode prog_11_method_5_code 2 (some FieldType.boolean)) ∈ gtb := gtb_of (tb_4 (List.mem_of_getElem? (i := 182) rfl)) rfl
theorem tw_903 : (Cond.methodLink "RobotBusLaw" 104 y_Mdl_latch) ∈ gtb := gtb_of (tb_4 (List.mem_of_getElem? (i := 183) (by decide +kernel))) (by decide +kernel)
theorem tw_904 : (Cond.instanceMethod y_Mdl_latch) ∈ gtb := gtb_of (tb_4 (List.mem_of_getElem? (i := 184) (by decide +kernel))) (by decide +kernel)
theorem tw_905 : (Cond.selects "RobotBusModel" y_Mdl_latch y_Mdl_latch) ∈ gtb := gtb_of (tb_4 (List.mem_of_getElem? (i := 185) (by decide +kernel))) (by decide +kernel)
theorem tw_906 : (Cond.code y_Mdl_latch prog_11_method_8_code 4 (some FieldType.int)) ∈ gtb := gtb_of (tb_4 (List.mem_of_getElem? (i := 186) rfl)) rfl
theorem tw_907 : (Cond.methodLink "RobotBusLaw" 108 y_Mdl_subscribe) ∈ gtb := gtb_of (tb_4 (List.mem_of_getElem? (i := 187) (by decide +kernel))) (by decide +kernel)
theorem tw_908 : (Cond.instanceMethod y_Mdl_subscribe) ∈ gtb := gtb_of (tb_4 (List.mem_of_getElem? (i := 188) (by decide +kernel))) (by decide +kernel)
theorem tw_909 : (Cond.selects "RobotBusModel" y_Mdl_subscribe y_Mdl_subscribe) ∈ gtb := gtb_of (tb_4 (List.mem_of_getElem? (i := 189) (by decide +kernel))) (by decide +kernel)
theorem tw_910 : (Cond.code y_Mdl_subscribe prog_11_method_12_code 6 (some FieldType.int)) ∈ gtb := gtb_of (tb_4 (List.mem_of_getElem? (i := 190) rfl)) rfl
theorem tw_911 : (Cond.methodLink "RobotBusModel" 131 y_Mdl_put) ∈ gtb := gtb_of (tb_4 (List.mem_of_getElem? (i := 191) (by decide +kernel))) (by decide +kernel)
theorem tw_913 : (Cond.instanceMethod y_Mdl_put) ∈ gtb := gtb_of (tb_4 (List.mem_of_getElem? (i := 193) (by decide +kernel))) (by decide +kernel)
theorem tw_914 : (Cond.code y_Mdl_put prog_11_method_10_code 6 (Option.none : Option Jvm.ClassFile.FieldType)) ∈ gtb := gtb_of (tb_4 (List.mem_of_getElem? (i := 194) rfl)) rfl
theorem tw_915 : (Cond.methodLink "RobotBusModel" 118 y_Mdl_shift) ∈ gtb := gtb_of (tb_4 (List.mem_of_getElem? (i := 195) (by decide +kernel))) (by decide +kernel)
theorem tw_917 : (Cond.instanceMethod y_Mdl_shift) ∈ gtb := gtb_of (tb_4 (List.mem_of_getElem? (i := 197) (by decide +kernel))) (by decide +kernel)
theorem tw_918 : (Cond.code y_Mdl_shift prog_11_method_9_code 3 (Option.none : Option Jvm.ClassFile.FieldType)) ∈ gtb := gtb_of (tb_4 (List.mem_of_getElem? (i := 198) rfl)) rfl
theorem tw_919 : (Cond.methodLink "RobotBusLaw" 112 y_Mdl_unsubscribe) ∈ gtb := gtb_of (tb_4 (List.mem_of_getElem? (i := 199) (by decide +kernel))) (by decide +kernel)
theorem tw_920 : (Cond.instanceMethod y_Mdl_unsubscribe) ∈ gtb := gtb_of (tb_4 (List.mem_of_getElem? (i := 200) (by decide +kernel))) (by decide +kernel)
theorem tw_921 : (Cond.selects "RobotBusModel" y_Mdl_unsubscribe y_Mdl_unsubscribe) ∈ gtb := gtb_of (tb_4 (List.mem_of_getElem? (i := 201) (by decide +kernel))) (by decide +kernel)
theorem tw_922 : (Cond.code y_Mdl_unsubscribe prog_11_method_13_code 5 (some FieldType.int)) ∈ gtb := gtb_of (tb_4 (List.mem_of_getElem? (i := 202) rfl)) rfl
theorem tw_923 : (Cond.methodLink "RobotBusLaw" 115 y_Mdl_publish) ∈ gtb := gtb_of (tb_4 (List.mem_of_getElem? (i := 203) (by decide +kernel))) (by decide +kernel)
theorem tw_924 : (Cond.instanceMethod y_Mdl_publish) ∈ gtb := gtb_of (tb_4 (List.mem_of_getElem? (i := 204) (by decide +kernel))) (by decide +kernel)
theorem tw_925 : (Cond.selects "RobotBusModel" y_Mdl_publish y_Mdl_publish) ∈ gtb := gtb_of (tb_4 (List.mem_of_getElem? (i := 205) (by decide +kernel))) (by decide +kernel)
theorem tw_926 : (Cond.code y_Mdl_publish prog_11_method_14_code 4 (some FieldType.int)) ∈ gtb := gtb_of (tb_4 (List.mem_of_getElem? (i := 206) rfl)) rfl
theorem tw_927 : (Cond.methodLink "RobotBusModel" 138 y_Mdl_send) ∈ gtb := gtb_of (tb_4 (List.mem_of_getElem? (i := 207) (by decide +kernel))) (by decide +kernel)
theorem tw_929 : (Cond.instanceMethod y_Mdl_send) ∈ gtb := gtb_of (tb_4 (List.mem_of_getElem? (i := 209) (by decide +kernel))) (by decide +kernel)
theorem tw_930 : (Cond.code y_Mdl_send prog_11_method_11_code 7 (some FieldType.int)) ∈ gtb := gtb_of (tb_4 (List.mem_of_getElem? (i := 210) rfl)) rfl
theorem tw_931 : (Cond.methodLink "RobotBusLaw" 119 y_Mdl_act) ∈ gtb := gtb_of (tb_4 (List.mem_of_getElem? (i := 211) (by decide +kernel))) (by decide +kernel)
theorem tw_932 : (Cond.instanceMethod y_Mdl_act) ∈ gtb := gtb_of (tb_4 (List.mem_of_getElem? (i := 212) (by decide +kernel))) (by decide +kernel)
theorem tw_933 : (Cond.selects "RobotBusModel" y_Mdl_act y_Mdl_act) ∈ gtb := gtb_of (tb_4 (List.mem_of_getElem? (i := 213) (by decide +kernel))) (by decide +kernel)
theorem tw_934 : (Cond.code y_Mdl_act prog_11_method_16_code 8 (some FieldType.int)) ∈ gtb := gtb_of (tb_4 (List.mem_of_getElem? (i := 214) rfl)) rfl
theorem tw_935 : (Cond.methodLink "RobotBusModel" 142 y_Mdl_actionFits) ∈ gtb := gtb_of (tb_4 (List.mem_of_getElem? (i := 215) (by decide +kernel))) (by decide +kernel)
theorem tw_936 : (Cond.static y_Mdl_actionFits) ∈ gtb := gtb_of (tb_4 (List.mem_of_getElem? (i := 216) (by decide +kernel))) (by decide +kernel)
theorem tw_937 : (Cond.code y_Mdl_actionFits prog_11_method_15_code 3 (some FieldType.boolean)) ∈ gtb := gtb_of (tb_4 (List.mem_of_getElem? (i := 217) rfl)) rfl
theorem tw_938 : (Cond.methodLink "RobotBusLaw" 122 y_Mdl_offer) ∈ gtb := gtb_of (tb_4 (List.mem_of_getElem? (i := 218) (by decide +kernel))) (by decide +kernel)
theorem tw_939 : (Cond.instanceMethod y_Mdl_offer) ∈ gtb := gtb_of (tb_4 (List.mem_of_getElem? (i := 219) (by decide +kernel))) (by decide +kernel)
theorem tw_940 : (Cond.selects "RobotBusModel" y_Mdl_offer y_Mdl_offer) ∈ gtb := gtb_of (tb_4 (List.mem_of_getElem? (i := 220) (by decide +kernel))) (by decide +kernel)
theorem tw_941 : (Cond.code y_Mdl_offer prog_11_method_18_code 7 (some FieldType.int)) ∈ gtb := gtb_of (tb_4 (List.mem_of_getElem? (i := 221) rfl)) rfl
theorem tw_942 : (Cond.methodLink "RobotBusModel" 145 y_Mdl_serviceFits) ∈ gtb := gtb_of (tb_4 (List.mem_of_getElem? (i := 222) (by decide +kernel))) (by decide +kernel)
theorem tw_943 : (Cond.static y_Mdl_serviceFits) ∈ gtb := gtb_of (tb_4 (List.mem_of_getElem? (i := 223) (by decide +kernel))) (by decide +kernel)
theorem tw_944 : (Cond.code y_Mdl_serviceFits prog_11_method_17_code 4 (some FieldType.boolean)) ∈ gtb := gtb_of (tb_4 (List.mem_of_getElem? (i := 224) rfl)) rfl
theorem tw_945 : (Cond.methodLink "RobotBusLaw" 125 y_Mdl_call) ∈ gtb := gtb_of (tb_4 (List.mem_of_getElem? (i := 225) (by decide +kernel))) (by decide +kernel)
theorem tw_946 : (Cond.instanceMethod y_Mdl_call) ∈ gtb := gtb_of (tb_4 (List.mem_of_getElem? (i := 226) (by decide +kernel))) (by decide +kernel)
theorem tw_947 : (Cond.selects "RobotBusModel" y_Mdl_call y_Mdl_call) ∈ gtb := gtb_of (tb_4 (List.mem_of_getElem? (i := 227) (by decide +kernel))) (by decide +kernel)
theorem tw_948 : (Cond.code y_Mdl_call prog_11_method_20_code 4 (some FieldType.int)) ∈ gtb := gtb_of (tb_4 (List.mem_of_getElem? (i := 228) rfl)) rfl
theorem tw_949 : (Cond.methodLink "RobotBusModel" 152 y_Mdl_ask) ∈ gtb := gtb_of (tb_4 (List.mem_of_getElem? (i := 229) (by decide +kernel))) (by decide +kernel)
theorem tw_951 : (Cond.instanceMethod y_Mdl_ask) ∈ gtb := gtb_of (tb_4 (List.mem_of_getElem? (i := 231) (by decide +kernel))) (by decide +kernel)
theorem tw_952 : (Cond.code y_Mdl_ask prog_11_method_19_code 6 (some FieldType.int)) ∈ gtb := gtb_of (tb_4 (List.mem_of_getElem? (i := 232) rfl)) rfl
theorem tw_953 : (Cond.methodLink "RobotBusLaw" 128 y_Mdl_tick) ∈ gtb := gtb_of (tb_4 (List.mem_of_getElem? (i := 233) (by decide +kernel))) (by decide +kernel)
theorem tw_954 : (Cond.instanceMethod y_Mdl_tick) ∈ gtb := gtb_of (tb_4 (List.mem_of_getElem? (i := 234) (by decide +kernel))) (by decide +kernel)
theorem tw_955 : (Cond.selects "RobotBusModel" y_Mdl_tick y_Mdl_tick) ∈ gtb := gtb_of (tb_4 (List.mem_of_getElem? (i := 235) (by decide +kernel))) (by decide +kernel)
theorem tw_956 : (Cond.code y_Mdl_tick prog_11_method_24_code 4 (some FieldType.int)) ∈ gtb := gtb_of (tb_4 (List.mem_of_getElem? (i := 236) rfl)) rfl
theorem tw_957 : (Cond.methodLink "RobotBusModel" 182 y_Mdl_playDue) ∈ gtb := gtb_of (tb_4 (List.mem_of_getElem? (i := 237) (by decide +kernel))) (by decide +kernel)
theorem tw_959 : (Cond.instanceMethod y_Mdl_playDue) ∈ gtb := gtb_of (tb_4 (List.mem_of_getElem? (i := 239) (by decide +kernel))) (by decide +kernel)
theorem tw_960 : (Cond.code y_Mdl_playDue prog_11_method_21_code 3 (Option.none : Option Jvm.ClassFile.FieldType)) ∈ gtb := gtb_of (tb_5 (List.mem_of_getElem? (i := 0) rfl)) rfl
theorem tw_961 : (Cond.methodLink "RobotBusModel" 185 y_Mdl_spin) ∈ gtb := gtb_of (tb_5 (List.mem_of_getElem? (i := 1) (by decide +kernel))) (by decide +kernel)
theorem tw_963 : (Cond.instanceMethod y_Mdl_spin) ∈ gtb := gtb_of (tb_5 (List.mem_of_getElem? (i := 3) (by decide +kernel))) (by decide +kernel)
theorem tw_964 : (Cond.code y_Mdl_spin prog_11_method_23_code 6 (Option.none : Option Jvm.ClassFile.FieldType)) ∈ gtb := gtb_of (tb_5 (List.mem_of_getElem? (i := 4) rfl)) rfl
theorem tw_965 : (Cond.methodLink "RobotBusModel" 178 y_Mdl_perform) ∈ gtb := gtb_of (tb_5 (List.mem_of_getElem? (i := 5) (by decide +kernel))) (by decide +kernel)
theorem tw_967 : (Cond.instanceMethod y_Mdl_perform) ∈ gtb := gtb_of (tb_5 (List.mem_of_getElem? (i := 7) (by decide +kernel))) (by decide +kernel)
theorem tw_968 : (Cond.code y_Mdl_perform prog_11_method_22_code 7 (Option.none : Option Jvm.ClassFile.FieldType)) ∈ gtb := gtb_of (tb_5 (List.mem_of_getElem? (i := 8) rfl)) rfl
theorem tw_969 : (Cond.methodLink "RobotBusLaw" 131 y_Mdl_variable) ∈ gtb := gtb_of (tb_5 (List.mem_of_getElem? (i := 9) (by decide +kernel))) (by decide +kernel)
theorem tw_970 : (Cond.instanceMethod y_Mdl_variable) ∈ gtb := gtb_of (tb_5 (List.mem_of_getElem? (i := 10) (by decide +kernel))) (by decide +kernel)
theorem tw_971 : (Cond.selects "RobotBusModel" y_Mdl_variable y_Mdl_variable) ∈ gtb := gtb_of (tb_5 (List.mem_of_getElem? (i := 11) (by decide +kernel))) (by decide +kernel)
theorem tw_972 : (Cond.code y_Mdl_variable prog_11_method_25_code 3 (some FieldType.int)) ∈ gtb := gtb_of (tb_5 (List.mem_of_getElem? (i := 12) rfl)) rfl
theorem tw_973 : (Cond.methodLink "RobotBusLaw" 135 y_Mdl_queued) ∈ gtb := gtb_of (tb_5 (List.mem_of_getElem? (i := 13) (by decide +kernel))) (by decide +kernel)
theorem tw_974 : (Cond.instanceMethod y_Mdl_queued) ∈ gtb := gtb_of (tb_5 (List.mem_of_getElem? (i := 14) (by decide +kernel))) (by decide +kernel)
theorem tw_975 : (Cond.selects "RobotBusModel" y_Mdl_queued y_Mdl_queued) ∈ gtb := gtb_of (tb_5 (List.mem_of_getElem? (i := 15) (by decide +kernel))) (by decide +kernel)
theorem tw_976 : (Cond.code y_Mdl_queued prog_11_method_26_code 6 (some FieldType.int)) ∈ gtb := gtb_of (tb_5 (List.mem_of_getElem? (i := 16) rfl)) rfl
theorem tw_977 : (Cond.methodLink "RobotBusLaw" 138 y_Mdl_keep) ∈ gtb := gtb_of (tb_5 (List.mem_of_getElem? (i := 17) (by decide +kernel))) (by decide +kernel)
theorem tw_978 : (Cond.instanceMethod y_Mdl_keep) ∈ gtb := gtb_of (tb_5 (List.mem_of_getElem? (i := 18) (by decide +kernel))) (by decide +kernel)
theorem tw_979 : (Cond.selects "RobotBusModel" y_Mdl_keep y_Mdl_keep) ∈ gtb := gtb_of (tb_5 (List.mem_of_getElem? (i := 19) (by decide +kernel))) (by decide +kernel)
theorem tw_980 : (Cond.code y_Mdl_keep prog_11_method_27_code 4 (some FieldType.int)) ∈ gtb := gtb_of (tb_5 (List.mem_of_getElem? (i := 20) rfl)) rfl
theorem tw_981 : (Cond.methodLink "RobotBusLaw" 141 y_Mdl_play) ∈ gtb := gtb_of (tb_5 (List.mem_of_getElem? (i := 21) (by decide +kernel))) (by decide +kernel)
theorem tw_982 : (Cond.instanceMethod y_Mdl_play) ∈ gtb := gtb_of (tb_5 (List.mem_of_getElem? (i := 22) (by decide +kernel))) (by decide +kernel)
theorem tw_983 : (Cond.selects "RobotBusModel" y_Mdl_play y_Mdl_play) ∈ gtb := gtb_of (tb_5 (List.mem_of_getElem? (i := 23) (by decide +kernel))) (by decide +kernel)
theorem tw_984 : (Cond.code y_Mdl_play prog_11_method_28_code 2 (some FieldType.int)) ∈ gtb := gtb_of (tb_5 (List.mem_of_getElem? (i := 24) rfl)) rfl
theorem tw_985 : (Cond.methodLink "RobotBusLaw" 145 y_Mdl_empty) ∈ gtb := gtb_of (tb_5 (List.mem_of_getElem? (i := 25) (by decide +kernel))) (by decide +kernel)
theorem tw_986 : (Cond.instanceMethod y_Mdl_empty) ∈ gtb := gtb_of (tb_5 (List.mem_of_getElem? (i := 26) (by decide +kernel))) (by decide +kernel)
theorem tw_987 : (Cond.selects "RobotBusModel" y_Mdl_empty y_Mdl_empty) ∈ gtb := gtb_of (tb_5 (List.mem_of_getElem? (i := 27) (by decide +kernel))) (by decide +kernel)
theorem tw_988 : (Cond.code y_Mdl_empty prog_11_method_29_code 2 (some FieldType.int)) ∈ gtb := gtb_of (tb_5 (List.mem_of_getElem? (i := 28) rfl)) rfl
theorem tw_989 : (Cond.methodLink "RobotBusLaw" 148 y_Mdl_mount) ∈ gtb := gtb_of (tb_5 (List.mem_of_getElem? (i := 29) (by decide +kernel))) (by decide +kernel)
theorem tw_990 : (Cond.instanceMethod y_Mdl_mount) ∈ gtb := gtb_of (tb_5 (List.mem_of_getElem? (i := 30) (by decide +kernel))) (by decide +kernel)
theorem tw_991 : (Cond.selects "RobotBusModel" y_Mdl_mount y_Mdl_mount) ∈ gtb := gtb_of (tb_5 (List.mem_of_getElem? (i := 31) (by decide +kernel))) (by decide +kernel)
theorem tw_992 : (Cond.code y_Mdl_mount prog_11_method_30_code 4 (some FieldType.int)) ∈ gtb := gtb_of (tb_5 (List.mem_of_getElem? (i := 32) rfl)) rfl
theorem tw_993 : (Cond.methodLink "RobotBusLaw" 154 y_Mdl_sample) ∈ gtb := gtb_of (tb_5 (List.mem_of_getElem? (i := 33) (by decide +kernel))) (by decide +kernel)
theorem tw_994 : (Cond.instanceMethod y_Mdl_sample) ∈ gtb := gtb_of (tb_5 (List.mem_of_getElem? (i := 34) (by decide +kernel))) (by decide +kernel)
theorem tw_995 : (Cond.selects "RobotBusModel" y_Mdl_sample y_Mdl_sample) ∈ gtb := gtb_of (tb_5 (List.mem_of_getElem? (i := 35) (by decide +kernel))) (by decide +kernel)
theorem tw_996 : (Cond.code y_Mdl_sample prog_11_method_32_code 10 (some FieldType.int)) ∈ gtb := gtb_of (tb_5 (List.mem_of_getElem? (i := 36) rfl)) rfl
theorem tw_997 : (Cond.methodLink "RobotBusModel" 194 y_Mdl_near) ∈ gtb := gtb_of (tb_5 (List.mem_of_getElem? (i := 37) (by decide +kernel))) (by decide +kernel)
theorem tw_998 : (Cond.static y_Mdl_near) ∈ gtb := gtb_of (tb_5 (List.mem_of_getElem? (i := 38) (by decide +kernel))) (by decide +kernel)
theorem tw_999 : (Cond.code y_Mdl_near prog_11_method_31_code 2 (some FieldType.boolean)) ∈ gtb := gtb_of (tb_5 (List.mem_of_getElem? (i := 39) rfl)) rfl
theorem tw_1000 : (Cond.constantDouble "RobotBusModel" 188 13875590451928498176) ∈ gtb := gtb_of (tb_5 (List.mem_of_getElem? (i := 40) (by decide +kernel))) (by decide +kernel)
theorem tw_1001 : (Cond.constantDouble "RobotBusModel" 190 4652218415073722368) ∈ gtb := gtb_of (tb_5 (List.mem_of_getElem? (i := 41) (by decide +kernel))) (by decide +kernel)
theorem tw_1002 : (Cond.constantDouble "RobotBusModel" 192 4620693217682128896) ∈ gtb := gtb_of (tb_5 (List.mem_of_getElem? (i := 42) (by decide +kernel))) (by decide +kernel)
theorem tw_1003 : (Cond.constant "RobotBusModel" 198 100000) ∈ gtb := gtb_of (tb_5 (List.mem_of_getElem? (i := 43) (by decide +kernel))) (by decide +kernel)
theorem tw_1004 : (Cond.methodLink "RobotBusLaw" 158 y_Mdl_locate) ∈ gtb := gtb_of (tb_5 (List.mem_of_getElem? (i := 44) (by decide +kernel))) (by decide +kernel)
theorem tw_1005 : (Cond.instanceMethod y_Mdl_locate) ∈ gtb := gtb_of (tb_5 (List.mem_of_getElem? (i := 45) (by decide +kernel))) (by decide +kernel)
theorem tw_1006 : (Cond.selects "RobotBusModel" y_Mdl_locate y_Mdl_locate) ∈ gtb := gtb_of (tb_5 (List.mem_of_getElem? (i := 46) (by decide +kernel))) (by decide +kernel)
theorem tw_1007 : (Cond.code y_Mdl_locate prog_11_method_35_code 8 (some FieldType.double)) ∈ gtb := gtb_of (tb_5 (List.mem_of_getElem? (i := 47) rfl)) rfl
theorem tw_1008 : (Cond.methodLink "RobotBusModel" 210 y_Mdl_rise) ∈ gtb := gtb_of (tb_5 (List.mem_of_getElem? (i := 48) (by decide +kernel))) (by decide +kernel)
theorem tw_1010 : (Cond.instanceMethod y_Mdl_rise) ∈ gtb := gtb_of (tb_5 (List.mem_of_getElem? (i := 50) (by decide +kernel))) (by decide +kernel)
theorem tw_1011 : (Cond.code y_Mdl_rise prog_11_method_34_code 14 (some FieldType.boolean)) ∈ gtb := gtb_of (tb_5 (List.mem_of_getElem? (i := 51) rfl)) rfl
theorem tw_1012 : (Cond.methodLink "RobotBusModel" 199 y_Mdl_between) ∈ gtb := gtb_of (tb_5 (List.mem_of_getElem? (i := 52) (by decide +kernel))) (by decide +kernel)
theorem tw_1013 : (Cond.static y_Mdl_between) ∈ gtb := gtb_of (tb_5 (List.mem_of_getElem? (i := 53) (by decide +kernel))) (by decide +kernel)
theorem tw_1014 : (Cond.code y_Mdl_between prog_11_method_33_code 10 (some FieldType.long)) ∈ gtb := gtb_of (tb_5 (List.mem_of_getElem? (i := 54) rfl)) rfl
theorem tw_1015 : (Cond.constantDouble "RobotBusModel" 214 4593671619917905920) ∈ gtb := gtb_of (tb_5 (List.mem_of_getElem? (i := 55) (by decide +kernel))) (by decide +kernel)
theorem tw_1016 : (Cond.methodLink "RobotBusLaw" 163 y_Mdl_lastY) ∈ gtb := gtb_of (tb_5 (List.mem_of_getElem? (i := 56) (by decide +kernel))) (by decide +kernel)
theorem tw_1017 : (Cond.instanceMethod y_Mdl_lastY) ∈ gtb := gtb_of (tb_5 (List.mem_of_getElem? (i := 57) (by decide +kernel))) (by decide +kernel)
theorem tw_1018 : (Cond.selects "RobotBusModel" y_Mdl_lastY y_Mdl_lastY) ∈ gtb := gtb_of (tb_5 (List.mem_of_getElem? (i := 58) (by decide +kernel))) (by decide +kernel)
theorem tw_1019 : (Cond.code y_Mdl_lastY prog_11_method_36_code 1 (some FieldType.double)) ∈ gtb := gtb_of (tb_5 (List.mem_of_getElem? (i := 59) rfl)) rfl
theorem tw_1020 : (Cond.methodLink "RobotBusLaw" 166 y_Mdl_count) ∈ gtb := gtb_of (tb_5 (List.mem_of_getElem? (i := 60) (by decide +kernel))) (by decide +kernel)
theorem tw_1021 : (Cond.instanceMethod y_Mdl_count) ∈ gtb := gtb_of (tb_5 (List.mem_of_getElem? (i := 61) (by decide +kernel))) (by decide +kernel)
theorem tw_1022 : (Cond.selects "RobotBusModel" y_Mdl_count y_Mdl_count) ∈ gtb := gtb_of (tb_5 (List.mem_of_getElem? (i := 62) (by decide +kernel))) (by decide +kernel)
theorem tw_1023 : (Cond.code y_Mdl_count prog_11_method_37_code 2 (some FieldType.int)) ∈ gtb := gtb_of (tb_5 (List.mem_of_getElem? (i := 63) rfl)) rfl
theorem tw_1024 : (Cond.constantDouble "RobotBusLaw" 149 4593671619917905920) ∈ gtb := gtb_of (tb_5 (List.mem_of_getElem? (i := 64) (by decide +kernel))) (by decide +kernel)
theorem tw_1025 : (Cond.arrayClass FieldType.double) ∈ gtb := gtb_of (tb_5 (List.mem_of_getElem? (i := 65) (by decide +kernel))) (by decide +kernel)
theorem tp_Bus_isThere : Cond.selects "RobotBus" y_Bus_isThere y_Bus_isThere ∈ gtb := List.mem_filter.mpr ⟨List.mem_append_left _ (List.mem_of_getElem? (i := 1) (by decide +kernel)), by decide +kernel⟩
theorem tp_Bus_send : Cond.selects "RobotBus" y_Bus_send y_Bus_send ∈ gtb := List.mem_filter.mpr ⟨List.mem_append_left _ (List.mem_of_getElem? (i := 2) (by decide +kernel)), by decide +kernel⟩
theorem tp_Bus_ask : Cond.selects "RobotBus" y_Bus_ask y_Bus_ask ∈ gtb := List.mem_filter.mpr ⟨List.mem_append_left _ (List.mem_of_getElem? (i := 3) (by decide +kernel)), by decide +kernel⟩
theorem tp_Bus_compute : Cond.selects "RobotBus" y_Bus_compute y_Bus_compute ∈ gtb := List.mem_filter.mpr ⟨List.mem_append_left _ (List.mem_of_getElem? (i := 4) (by decide +kernel)), by decide +kernel⟩
theorem tp_Bus_passOneTick : Cond.selects "RobotBus" y_Bus_passOneTick y_Bus_passOneTick ∈ gtb := List.mem_filter.mpr ⟨List.mem_append_left _ (List.mem_of_getElem? (i := 5) (by decide +kernel)), by decide +kernel⟩
theorem tp_Bus_spin : Cond.selects "RobotBus" y_Bus_spin y_Bus_spin ∈ gtb := List.mem_filter.mpr ⟨List.mem_append_left _ (List.mem_of_getElem? (i := 6) (by decide +kernel)), by decide +kernel⟩
theorem tp_Bus_perform : Cond.selects "RobotBus" y_Bus_perform y_Bus_perform ∈ gtb := List.mem_filter.mpr ⟨List.mem_append_left _ (List.mem_of_getElem? (i := 7) (by decide +kernel)), by decide +kernel⟩
theorem tp_Bus_isAbove : Cond.selects "RobotBus" y_Bus_isAbove y_Bus_isAbove ∈ gtb := List.mem_filter.mpr ⟨List.mem_append_left _ (List.mem_of_getElem? (i := 8) (by decide +kernel)), by decide +kernel⟩
theorem tp_Bus_liftToRoot : Cond.selects "RobotBus" y_Bus_liftToRoot y_Bus_liftToRoot ∈ gtb := List.mem_filter.mpr ⟨List.mem_append_left _ (List.mem_of_getElem? (i := 9) (by decide +kernel)), by decide +kernel⟩
theorem tp_Mdl_raise : Cond.selects "RobotBusModel" y_Mdl_raise y_Mdl_raise ∈ gtb := List.mem_filter.mpr ⟨List.mem_append_left _ (List.mem_of_getElem? (i := 10) (by decide +kernel)), by decide +kernel⟩
theorem tp_Mdl_noNode : Cond.selects "RobotBusModel" y_Mdl_noNode y_Mdl_noNode ∈ gtb := List.mem_filter.mpr ⟨List.mem_append_left _ (List.mem_of_getElem? (i := 11) (by decide +kernel)), by decide +kernel⟩
theorem tp_Mdl_put : Cond.selects "RobotBusModel" y_Mdl_put y_Mdl_put ∈ gtb := List.mem_filter.mpr ⟨List.mem_append_left _ (List.mem_of_getElem? (i := 12) (by decide +kernel)), by decide +kernel⟩
theorem tp_Mdl_shift : Cond.selects "RobotBusModel" y_Mdl_shift y_Mdl_shift ∈ gtb := List.mem_filter.mpr ⟨List.mem_append_left _ (List.mem_of_getElem? (i := 13) (by decide +kernel)), by decide +kernel⟩
theorem tp_Mdl_send : Cond.selects "RobotBusModel" y_Mdl_send y_Mdl_send ∈ gtb := List.mem_filter.mpr ⟨List.mem_append_left _ (List.mem_of_getElem? (i := 14) (by decide +kernel)), by decide +kernel⟩
theorem tp_Mdl_ask : Cond.selects "RobotBusModel" y_Mdl_ask y_Mdl_ask ∈ gtb := List.mem_filter.mpr ⟨List.mem_append_left _ (List.mem_of_getElem? (i := 15) (by decide +kernel)), by decide +kernel⟩
theorem tp_Mdl_playDue : Cond.selects "RobotBusModel" y_Mdl_playDue y_Mdl_playDue ∈ gtb := List.mem_filter.mpr ⟨List.mem_append_left _ (List.mem_of_getElem? (i := 16) (by decide +kernel)), by decide +kernel⟩
theorem tp_Mdl_spin : Cond.selects "RobotBusModel" y_Mdl_spin y_Mdl_spin ∈ gtb := List.mem_filter.mpr ⟨List.mem_append_left _ (List.mem_of_getElem? (i := 17) (by decide +kernel)), by decide +kernel⟩
theorem tp_Mdl_perform : Cond.selects "RobotBusModel" y_Mdl_perform y_Mdl_perform ∈ gtb := List.mem_filter.mpr ⟨List.mem_append_left _ (List.mem_of_getElem? (i := 18) (by decide +kernel)), by decide +kernel⟩
theorem tp_Mdl_rise : Cond.selects "RobotBusModel" y_Mdl_rise y_Mdl_rise ∈ gtb := List.mem_filter.mpr ⟨List.mem_append_left _ (List.mem_of_getElem? (i := 19) (by decide +kernel)), by decide +kernel⟩
theorem in_Bus : ∀ w ∈ u_ws R_Bus F_Bus 13, w ∈ gtb := by
  intro w hw
  obtain ⟨k, hk, rfl⟩ := List.mem_map.mp hw
  have hk := List.mem_range.mp hk
  by_cases h0 : k = 0
  · subst h0; exact tw_246
  by_cases h1 : k = 1
  · subst h1; exact tw_248
  by_cases h2 : k = 2
  · subst h2; exact tw_250
  by_cases h3 : k = 3
  · subst h3; exact tw_252
  by_cases h4 : k = 4
  · subst h4; exact tw_254
  by_cases h5 : k = 5
  · subst h5; exact tw_256
  by_cases h6 : k = 6
  · subst h6; exact tw_258
  by_cases h7 : k = 7
  · subst h7; exact tw_260
  by_cases h8 : k = 8
  · subst h8; exact tw_262
  by_cases h9 : k = 9
  · subst h9; exact tw_264
  by_cases h10 : k = 10
  · subst h10; exact tw_266
  by_cases h11 : k = 11
  · subst h11; exact tw_268
  by_cases h12 : k = 12
  · subst h12; exact tw_270
  omega
theorem in_Nod : ∀ w ∈ u_ws R_Nod F_Nod 5, w ∈ gtb := by
  intro w hw
  obtain ⟨k, hk, rfl⟩ := List.mem_map.mp hw
  have hk := List.mem_range.mp hk
  by_cases h0 : k = 0
  · subst h0; exact tw_141
  by_cases h1 : k = 1
  · subst h1; exact tw_143
  by_cases h2 : k = 2
  · subst h2; exact tw_145
  by_cases h3 : k = 3
  · subst h3; exact tw_147
  by_cases h4 : k = 4
  · subst h4; exact tw_149
  omega
theorem in_Que : ∀ w ∈ u_ws R_Que F_Que 3, w ∈ gtb := by
  intro w hw
  obtain ⟨k, hk, rfl⟩ := List.mem_map.mp hw
  have hk := List.mem_range.mp hk
  by_cases h0 : k = 0
  · subst h0; exact tw_106
  by_cases h1 : k = 1
  · subst h1; exact tw_108
  by_cases h2 : k = 2
  · subst h2; exact tw_110
  omega
theorem in_Act : ∀ w ∈ u_ws R_Act F_Act 3, w ∈ gtb := by
  intro w hw
  obtain ⟨k, hk, rfl⟩ := List.mem_map.mp hw
  have hk := List.mem_range.mp hk
  by_cases h0 : k = 0
  · subst h0; exact tw_125
  by_cases h1 : k = 1
  · subst h1; exact tw_127
  by_cases h2 : k = 2
  · subst h2; exact tw_129
  omega
theorem in_Top : ∀ w ∈ u_ws R_Top F_Top 6, w ∈ gtb := by
  intro w hw
  obtain ⟨k, hk, rfl⟩ := List.mem_map.mp hw
  have hk := List.mem_range.mp hk
  by_cases h0 : k = 0
  · subst h0; exact tw_169
  by_cases h1 : k = 1
  · subst h1; exact tw_171
  by_cases h2 : k = 2
  · subst h2; exact tw_173
  by_cases h3 : k = 3
  · subst h3; exact tw_175
  by_cases h4 : k = 4
  · subst h4; exact tw_177
  by_cases h5 : k = 5
  · subst h5; exact tw_179
  omega
theorem in_Srv : ∀ w ∈ u_ws R_Srv F_Srv 4, w ∈ gtb := by
  intro w hw
  obtain ⟨k, hk, rfl⟩ := List.mem_map.mp hw
  have hk := List.mem_range.mp hk
  by_cases h0 : k = 0
  · subst h0; exact tw_195
  by_cases h1 : k = 1
  · subst h1; exact tw_197
  by_cases h2 : k = 2
  · subst h2; exact tw_199
  by_cases h3 : k = 3
  · subst h3; exact tw_201
  omega
theorem in_Frm : ∀ w ∈ u_ws R_Frm F_Frm 6, w ∈ gtb := by
  intro w hw
  obtain ⟨k, hk, rfl⟩ := List.mem_map.mp hw
  have hk := List.mem_range.mp hk
  by_cases h0 : k = 0
  · subst h0; exact tw_220
  by_cases h1 : k = 1
  · subst h1; exact tw_222
  by_cases h2 : k = 2
  · subst h2; exact tw_224
  by_cases h3 : k = 3
  · subst h3; exact tw_226
  by_cases h4 : k = 4
  · subst h4; exact tw_228
  by_cases h5 : k = 5
  · subst h5; exact tw_230
  omega
theorem in_Bag : ∀ w ∈ u_ws R_Bag F_Bag 8, w ∈ gtb := by
  intro w hw
  obtain ⟨k, hk, rfl⟩ := List.mem_map.mp hw
  have hk := List.mem_range.mp hk
  by_cases h0 : k = 0
  · subst h0; exact tw_54
  by_cases h1 : k = 1
  · subst h1; exact tw_56
  by_cases h2 : k = 2
  · subst h2; exact tw_58
  by_cases h3 : k = 3
  · subst h3; exact tw_60
  by_cases h4 : k = 4
  · subst h4; exact tw_62
  by_cases h5 : k = 5
  · subst h5; exact tw_64
  by_cases h6 : k = 6
  · subst h6; exact tw_66
  by_cases h7 : k = 7
  · subst h7; exact tw_68
  omega
theorem in_Pnt : ∀ w ∈ u_ws R_Pnt F_Pnt 2, w ∈ gtb := by
  intro w hw
  obtain ⟨k, hk, rfl⟩ := List.mem_map.mp hw
  have hk := List.mem_range.mp hk
  by_cases h0 : k = 0
  · subst h0; exact tw_82
  by_cases h1 : k = 1
  · subst h1; exact tw_84
  omega
theorem in_Mdl : ∀ w ∈ u_ws R_Mdl F_Mdl 46, w ∈ gtb := by
  intro w hw
  obtain ⟨k, hk, rfl⟩ := List.mem_map.mp hw
  have hk := List.mem_range.mp hk
  by_cases h0 : k = 0
  · subst h0; exact tw_785
  by_cases h1 : k = 1
  · subst h1; exact tw_787
  by_cases h2 : k = 2
  · subst h2; exact tw_789
  by_cases h3 : k = 3
  · subst h3; exact tw_791
  by_cases h4 : k = 4
  · subst h4; exact tw_793
  by_cases h5 : k = 5
  · subst h5; exact tw_795
  by_cases h6 : k = 6
  · subst h6; exact tw_797
  by_cases h7 : k = 7
  · subst h7; exact tw_799
  by_cases h8 : k = 8
  · subst h8; exact tw_801
  by_cases h9 : k = 9
  · subst h9; exact tw_803
  by_cases h10 : k = 10
  · subst h10; exact tw_805
  by_cases h11 : k = 11
  · subst h11; exact tw_807
  by_cases h12 : k = 12
  · subst h12; exact tw_809
  by_cases h13 : k = 13
  · subst h13; exact tw_811
  by_cases h14 : k = 14
  · subst h14; exact tw_813
  by_cases h15 : k = 15
  · subst h15; exact tw_815
  by_cases h16 : k = 16
  · subst h16; exact tw_817
  by_cases h17 : k = 17
  · subst h17; exact tw_819
  by_cases h18 : k = 18
  · subst h18; exact tw_821
  by_cases h19 : k = 19
  · subst h19; exact tw_823
  by_cases h20 : k = 20
  · subst h20; exact tw_825
  by_cases h21 : k = 21
  · subst h21; exact tw_827
  by_cases h22 : k = 22
  · subst h22; exact tw_829
  by_cases h23 : k = 23
  · subst h23; exact tw_831
  by_cases h24 : k = 24
  · subst h24; exact tw_833
  by_cases h25 : k = 25
  · subst h25; exact tw_835
  by_cases h26 : k = 26
  · subst h26; exact tw_837
  by_cases h27 : k = 27
  · subst h27; exact tw_839
  by_cases h28 : k = 28
  · subst h28; exact tw_841
  by_cases h29 : k = 29
  · subst h29; exact tw_843
  by_cases h30 : k = 30
  · subst h30; exact tw_845
  by_cases h31 : k = 31
  · subst h31; exact tw_847
  by_cases h32 : k = 32
  · subst h32; exact tw_849
  by_cases h33 : k = 33
  · subst h33; exact tw_851
  by_cases h34 : k = 34
  · subst h34; exact tw_853
  by_cases h35 : k = 35
  · subst h35; exact tw_855
  by_cases h36 : k = 36
  · subst h36; exact tw_857
  by_cases h37 : k = 37
  · subst h37; exact tw_859
  by_cases h38 : k = 38
  · subst h38; exact tw_861
  by_cases h39 : k = 39
  · subst h39; exact tw_863
  by_cases h40 : k = 40
  · subst h40; exact tw_865
  by_cases h41 : k = 41
  · subst h41; exact tw_867
  by_cases h42 : k = 42
  · subst h42; exact tw_869
  by_cases h43 : k = 43
  · subst h43; exact tw_871
  by_cases h44 : k = 44
  · subst h44; exact tw_873
  by_cases h45 : k = 45
  · subst h45; exact tw_875
  omega
