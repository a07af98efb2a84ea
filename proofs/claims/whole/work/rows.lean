section
-- ===== PART A: goes FIRST, ahead of the names: the tables' words, and 'selects' of the private methods out of them =====
/-- a private method of a class that the tables say can be made, by its rows of tables_1 -/
def lw_okq (q : MethodName × Nat) : Prop := (q.1.cls ≠ "java/lang/invoke/MethodHandle" ∧ q.1.cls ≠ "java/lang/invoke/VarHandle") ∧ Cond.instantiable q.1.cls q.2 ∈ tables_1 ∧ Cond.privateMethod q.1 ∈ tables_1 ∧ Cond.instanceMethod q.1 ∈ tables_1
theorem lw_p0 : lw_okq (⟨"LoaderModels", "fileAt", "(I)LLoaderModels$ClassFile;"⟩, 10) := ⟨⟨by decide +kernel, by decide +kernel⟩, List.mem_of_getElem? (i := 14) (by decide +kernel), List.mem_of_getElem? (i := 235) (by decide +kernel), List.mem_of_getElem? (i := 236) (by decide +kernel)⟩
theorem lw_p1 : lw_okq (⟨"LoaderModels", "answered", "(I)I"⟩, 10) := ⟨⟨by decide +kernel, by decide +kernel⟩, List.mem_of_getElem? (i := 14) (by decide +kernel), List.mem_of_getElem? (i := 403) (by decide +kernel), List.mem_of_getElem? (i := 404) (by decide +kernel)⟩
theorem lw_p2 : lw_okq (⟨"LoaderModels", "started", "(LLoaderModels$Model;)I"⟩, 10) := ⟨⟨by decide +kernel, by decide +kernel⟩, List.mem_of_getElem? (i := 14) (by decide +kernel), List.mem_of_getElem? (i := 444) (by decide +kernel), List.mem_of_getElem? (i := 445) (by decide +kernel)⟩
theorem lw_p3 : lw_okq (⟨"LoaderModels", "classOfObject", "(I)LLoaderModels$Model;"⟩, 10) := ⟨⟨by decide +kernel, by decide +kernel⟩, List.mem_of_getElem? (i := 14) (by decide +kernel), List.mem_of_getElem? (i := 466) (by decide +kernel), List.mem_of_getElem? (i := 467) (by decide +kernel)⟩
theorem lw_p4 : lw_okq (⟨"LoaderModels", "rowAt", "(I)LLoaderModels$Row;"⟩, 10) := ⟨⟨by decide +kernel, by decide +kernel⟩, List.mem_of_getElem? (i := 14) (by decide +kernel), List.mem_of_getElem? (i := 496) (by decide +kernel), List.mem_of_getElem? (i := 497) (by decide +kernel)⟩
theorem lw_p5 : lw_okq (⟨"LoaderModelsModel", "isLoader", "(I)Z"⟩, 42) := ⟨⟨by decide +kernel, by decide +kernel⟩, List.mem_of_getElem? (i := 536) (by decide +kernel), List.mem_of_getElem? (i := 546) (by decide +kernel), List.mem_of_getElem? (i := 547) (by decide +kernel)⟩
theorem lw_p6 : lw_okq (⟨"LoaderModelsModel", "isFile", "(I)Z"⟩, 42) := ⟨⟨by decide +kernel, by decide +kernel⟩, List.mem_of_getElem? (i := 536) (by decide +kernel), List.mem_of_getElem? (i := 700) (by decide +kernel), List.mem_of_getElem? (i := 701) (by decide +kernel)⟩
theorem lw_p7 : lw_okq (⟨"LoaderModelsModel", "goes", "(III)I"⟩, 42) := ⟨⟨by decide +kernel, by decide +kernel⟩, List.mem_of_getElem? (i := 536) (by decide +kernel), List.mem_of_getElem? (i := 714) (by decide +kernel), List.mem_of_getElem? (i := 715) (by decide +kernel)⟩
theorem lw_p8 : lw_okq (⟨"LoaderModelsModel", "push", "(III)V"⟩, 42) := ⟨⟨by decide +kernel, by decide +kernel⟩, List.mem_of_getElem? (i := 536) (by decide +kernel), List.mem_of_getElem? (i := 718) (by decide +kernel), List.mem_of_getElem? (i := 719) (by decide +kernel)⟩
theorem lw_p9 : lw_okq (⟨"LoaderModelsModel", "oneLoad", "(I)V"⟩, 42) := ⟨⟨by decide +kernel, by decide +kernel⟩, List.mem_of_getElem? (i := 536) (by decide +kernel), List.mem_of_getElem? (i := 722) (by decide +kernel), List.mem_of_getElem? (i := 723) (by decide +kernel)⟩
theorem lw_p10 : lw_okq (⟨"LoaderModelsModel", "gives", "(I)V"⟩, 42) := ⟨⟨by decide +kernel, by decide +kernel⟩, List.mem_of_getElem? (i := 536) (by decide +kernel), List.mem_of_getElem? (i := 726) (by decide +kernel), List.mem_of_getElem? (i := 727) (by decide +kernel)⟩
theorem lw_p11 : lw_okq (⟨"LoaderModelsModel", "ends", "(I)V"⟩, 42) := ⟨⟨by decide +kernel, by decide +kernel⟩, List.mem_of_getElem? (i := 536) (by decide +kernel), List.mem_of_getElem? (i := 730) (by decide +kernel), List.mem_of_getElem? (i := 731) (by decide +kernel)⟩
theorem lw_p12 : lw_okq (⟨"LoaderModelsModel", "isBarred", "(III)Z"⟩, 42) := ⟨⟨by decide +kernel, by decide +kernel⟩, List.mem_of_getElem? (i := 536) (by decide +kernel), List.mem_of_getElem? (i := 734) (by decide +kernel), List.mem_of_getElem? (i := 735) (by decide +kernel)⟩
theorem lw_p13 : lw_okq (⟨"LoaderModelsModel", "oneDefining", "(I)V"⟩, 42) := ⟨⟨by decide +kernel, by decide +kernel⟩, List.mem_of_getElem? (i := 536) (by decide +kernel), List.mem_of_getElem? (i := 738) (by decide +kernel), List.mem_of_getElem? (i := 739) (by decide +kernel)⟩
theorem lw_p14 : lw_okq (⟨"LoaderModelsModel", "makes", "(III)V"⟩, 42) := ⟨⟨by decide +kernel, by decide +kernel⟩, List.mem_of_getElem? (i := 536) (by decide +kernel), List.mem_of_getElem? (i := 742) (by decide +kernel), List.mem_of_getElem? (i := 743) (by decide +kernel)⟩
theorem lw_p15 : lw_okq (⟨"LoaderModelsModel", "fails", "(I)I"⟩, 42) := ⟨⟨by decide +kernel, by decide +kernel⟩, List.mem_of_getElem? (i := 536) (by decide +kernel), List.mem_of_getElem? (i := 746) (by decide +kernel), List.mem_of_getElem? (i := 747) (by decide +kernel)⟩
def lw_privs_1 : List (MethodName × Nat) := [(⟨"LoaderModels", "fileAt", "(I)LLoaderModels$ClassFile;"⟩, 10), (⟨"LoaderModels", "answered", "(I)I"⟩, 10), (⟨"LoaderModels", "started", "(LLoaderModels$Model;)I"⟩, 10), (⟨"LoaderModels", "classOfObject", "(I)LLoaderModels$Model;"⟩, 10), (⟨"LoaderModels", "rowAt", "(I)LLoaderModels$Row;"⟩, 10), (⟨"LoaderModelsModel", "isLoader", "(I)Z"⟩, 42), (⟨"LoaderModelsModel", "isFile", "(I)Z"⟩, 42), (⟨"LoaderModelsModel", "goes", "(III)I"⟩, 42), (⟨"LoaderModelsModel", "push", "(III)V"⟩, 42), (⟨"LoaderModelsModel", "oneLoad", "(I)V"⟩, 42), (⟨"LoaderModelsModel", "gives", "(I)V"⟩, 42), (⟨"LoaderModelsModel", "ends", "(I)V"⟩, 42), (⟨"LoaderModelsModel", "isBarred", "(III)Z"⟩, 42), (⟨"LoaderModelsModel", "oneDefining", "(I)V"⟩, 42), (⟨"LoaderModelsModel", "makes", "(III)V"⟩, 42), (⟨"LoaderModelsModel", "fails", "(I)I"⟩, 42)]
theorem lw_r1 : ∀ q ∈ lw_privs_1, lw_okq q := List.forall_mem_cons.mpr ⟨lw_p0, List.forall_mem_cons.mpr ⟨lw_p1, List.forall_mem_cons.mpr ⟨lw_p2, List.forall_mem_cons.mpr ⟨lw_p3, List.forall_mem_cons.mpr ⟨lw_p4, List.forall_mem_cons.mpr ⟨lw_p5, List.forall_mem_cons.mpr ⟨lw_p6, List.forall_mem_cons.mpr ⟨lw_p7, List.forall_mem_cons.mpr ⟨lw_p8, List.forall_mem_cons.mpr ⟨lw_p9, List.forall_mem_cons.mpr ⟨lw_p10, List.forall_mem_cons.mpr ⟨lw_p11, List.forall_mem_cons.mpr ⟨lw_p12, List.forall_mem_cons.mpr ⟨lw_p13, List.forall_mem_cons.mpr ⟨lw_p14, List.forall_mem_cons.mpr ⟨lw_p15, fun _ h => absurd h List.not_mem_nil⟩⟩⟩⟩⟩⟩⟩⟩⟩⟩⟩⟩⟩⟩⟩⟩
theorem lw_p16 : lw_okq (⟨"LoaderModelsModel", "isClass", "(I)Z"⟩, 42) := ⟨⟨by decide +kernel, by decide +kernel⟩, List.mem_of_getElem? (i := 536) (by decide +kernel), List.mem_of_getElem? (i := 762) (by decide +kernel), List.mem_of_getElem? (i := 763) (by decide +kernel)⟩
theorem lw_p17 : lw_okq (⟨"LoaderModelsModel", "started", "(I)I"⟩, 42) := ⟨⟨by decide +kernel, by decide +kernel⟩, List.mem_of_getElem? (i := 536) (by decide +kernel), List.mem_of_getElem? (i := 774) (by decide +kernel), List.mem_of_getElem? (i := 775) (by decide +kernel)⟩
theorem lw_p18 : lw_okq (⟨"LoaderModelsModel", "isObject", "(I)Z"⟩, 42) := ⟨⟨by decide +kernel, by decide +kernel⟩, List.mem_of_getElem? (i := 536) (by decide +kernel), List.mem_of_getElem? (i := 792) (by decide +kernel), List.mem_of_getElem? (i := 793) (by decide +kernel)⟩
theorem lw_p19 : lw_okq (⟨"LoaderModelsModel", "isOf", "(II)Z"⟩, 42) := ⟨⟨by decide +kernel, by decide +kernel⟩, List.mem_of_getElem? (i := 536) (by decide +kernel), List.mem_of_getElem? (i := 796) (by decide +kernel), List.mem_of_getElem? (i := 797) (by decide +kernel)⟩
theorem lw_p20 : lw_okq (⟨"LoaderModelsModel", "isRow", "(I)Z"⟩, 42) := ⟨⟨by decide +kernel, by decide +kernel⟩, List.mem_of_getElem? (i := 536) (by decide +kernel), List.mem_of_getElem? (i := 809) (by decide +kernel), List.mem_of_getElem? (i := 810) (by decide +kernel)⟩
def lw_privs_2 : List (MethodName × Nat) := [(⟨"LoaderModelsModel", "isClass", "(I)Z"⟩, 42), (⟨"LoaderModelsModel", "started", "(I)I"⟩, 42), (⟨"LoaderModelsModel", "isObject", "(I)Z"⟩, 42), (⟨"LoaderModelsModel", "isOf", "(II)Z"⟩, 42), (⟨"LoaderModelsModel", "isRow", "(I)Z"⟩, 42)]
theorem lw_r2 : ∀ q ∈ lw_privs_2, lw_okq q := List.forall_mem_cons.mpr ⟨lw_p16, List.forall_mem_cons.mpr ⟨lw_p17, List.forall_mem_cons.mpr ⟨lw_p18, List.forall_mem_cons.mpr ⟨lw_p19, List.forall_mem_cons.mpr ⟨lw_p20, fun _ h => absurd h List.not_mem_nil⟩⟩⟩⟩⟩
def lw_privs : List (MethodName × Nat) := lw_privs_1 ++ (lw_privs_2)
def lw_tbl : List Cond := k2_sels lw_privs ++ tables_1
theorem lw_privs_ok : ∀ q ∈ lw_privs, lw_okq q := by
  show ∀ q ∈ lw_privs_1 ++ (lw_privs_2), lw_okq q
  exact List.forall_mem_append.mpr ⟨lw_r1, lw_r2⟩
-- ===== end of PART A; then your names; then what follows =====
end
section
/-! ===== BEGIN words of one list among another's, by their places ===== -/
theorem goodIn_r {big : List Cond} (ws : List Cond) (ps : List Nat) (hp : ws = ps.filterMap (fun i => big[i]?)) (h : ws.all goodWord = true) : GoodIn big ws := by
  intro w hw
  have h1 := List.all_eq_true.mp h w hw
  rw [hp] at hw
  obtain ⟨i, -, hi⟩ := List.mem_filterMap.mp hw
  have hm : w ∈ big := by first | exact List.mem_of_getElem? hi | exact List.getElem?_mem hi
  exact ⟨hm, good_of_word h1⟩
theorem goodIn_app {big a b : List Cond} (ha : GoodIn big a) (hb : GoodIn big b) : GoodIn big (a ++ b) := fun w h => (List.mem_append.mp h).elim (ha w) (hb w)
theorem goodIn_ca {big a b : List Cond} {c : Cond} (ha : GoodIn big (c :: a)) (hb : GoodIn big b) : GoodIn big (c :: (a ++ b)) := fun w h => (List.mem_cons.mp h).elim (fun e => ha w (List.mem_cons.mpr (Or.inl e))) (fun h => (List.mem_append.mp h).elim (fun h => ha w (List.mem_cons.mpr (Or.inr h))) (hb w))
theorem goodIn_sub {big ws : List Cond} (hm : ∀ w ∈ ws, w ∈ big) (h : ws.all goodWord = true) : GoodIn big ws := fun w hw => ⟨hm w hw, good_of_word (List.all_eq_true.mp h w hw)⟩
/-! ===== END ===== -/

/-! ===== BEGIN printed: names, fields, word lists, decode rows ===== -/
def RX0 : String := "LoaderModels$Body"
def TX0 : u_T := fun k => match k with
  | 0 => ("LoaderModels$Body", "kind", "I", true)
  | 1 => ("LoaderModels$Body", "a", "J", true)
  | _ => ("LoaderModels$Body", "b", "J", true)
def tyX0 : Nat → FieldType := fun k => match k with
  | 0 => .int
  | 1 => .long
  | _ => .long
abbrev wsX00 : List Cond := u_ws RX0 TX0 3
theorem nmX0 : ∀ a, a < 3 → ∀ b, b < 3 → a ≠ b → (TX0 a).2.1 ≠ (TX0 b).2.1 := by decide +kernel
theorem tyX0_ok : ∀ k, k < 3 → parseFieldDescriptor (TX0 k).2.2.1 = some (tyX0 k) := by decide +kernel
abbrev cX0_init : ByteArray := prog_2_method_1_code
def yX0_init : MethodName := ⟨RX0, "<init>", "(III)V"⟩
def RX1 : String := "LoaderModels$ClassFile"
def TX1 : u_T := fun k => match k with
  | 0 => ("LoaderModels$ClassFile", "number", "I", true)
  | 1 => ("LoaderModels$ClassFile", "name", "I", true)
  | 2 => ("LoaderModels$ClassFile", "inner", "I", true)
  | 3 => ("LoaderModels$ClassFile", "above", "I", true)
  | 4 => ("LoaderModels$ClassFile", "content", "I", true)
  | 5 => ("LoaderModels$ClassFile", "isFinal", "Z", true)
  | _ => ("LoaderModels$ClassFile", "bodies", "[LLoaderModels$Body;", true)
def tyX1 : Nat → FieldType := fun k => match k with
  | 0 => .int
  | 1 => .int
  | 2 => .int
  | 3 => .int
  | 4 => .int
  | 5 => .boolean
  | _ => .array (.object "LoaderModels$Body")
abbrev wsX10 : List Cond := u_ws RX1 TX1 7
theorem nmX1 : ∀ a, a < 7 → ∀ b, b < 7 → a ≠ b → (TX1 a).2.1 ≠ (TX1 b).2.1 := by decide +kernel
theorem tyX1_ok : ∀ k, k < 7 → parseFieldDescriptor (TX1 k).2.2.1 = some (tyX1 k) := by decide +kernel
abbrev cX1_init : ByteArray := prog_3_method_1_code
def yX1_init : MethodName := ⟨RX1, "<init>", "(IIIIIZ)V"⟩
def RX2 : String := "LoaderModels$Loader"
def TX2 : u_T := fun k => match k with
  | 0 => ("LoaderModels$Loader", "number", "I", true)
  | 1 => ("LoaderModels$Loader", "parent", "LLoaderModels$Loader;", true)
  | 2 => ("LoaderModels$Loader", "bound", "I", false)
  | 3 => ("LoaderModels$Loader", "files", "[LLoaderModels$ClassFile;", true)
  | 4 => ("LoaderModels$Loader", "knows", "[LLoaderModels$Model;", true)
  | 5 => ("LoaderModels$Loader", "defining", "[Z", true)
  | _ => ("LoaderModels$Loader", "agreed", "[I", true)
def tyX2 : Nat → FieldType := fun k => match k with
  | 0 => .int
  | 1 => .object "LoaderModels$Loader"
  | 2 => .int
  | 3 => .array (.object "LoaderModels$ClassFile")
  | 4 => .array (.object "LoaderModels$Model")
  | 5 => .array .boolean
  | _ => .array .int
abbrev wsX20 : List Cond := u_ws RX2 TX2 7
theorem nmX2 : ∀ a, a < 7 → ∀ b, b < 7 → a ≠ b → (TX2 a).2.1 ≠ (TX2 b).2.1 := by decide +kernel
theorem tyX2_ok : ∀ k, k < 7 → parseFieldDescriptor (TX2 k).2.2.1 = some (tyX2 k) := by decide +kernel
abbrev cX2_init : ByteArray := prog_4_method_1_code
def yX2_init : MethodName := ⟨RX2, "<init>", "(ILLoaderModels$Loader;)V"⟩
abbrev cX2_isMachine : ByteArray := prog_4_method_2_code
def yX2_isMachine : MethodName := ⟨RX2, "isMachine", "()Z"⟩
abbrev cX2_asksParentFirst : ByteArray := prog_4_method_3_code
def yX2_asksParentFirst : MethodName := ⟨RX2, "asksParentFirst", "(I)Z"⟩
def RX3 : String := "LoaderModels$Loaders"
def TX3 : u_T := fun k => match k with
  | 0 => ("LoaderModels$Loaders", "items", "[LLoaderModels$Loader;", true)
  | _ => ("LoaderModels$Loaders", "count", "I", false)
def tyX3 : Nat → FieldType := fun k => match k with
  | 0 => .array (.object "LoaderModels$Loader")
  | _ => .int
abbrev wsX30 : List Cond := u_ws RX3 TX3 2
theorem nmX3 : ∀ a, a < 2 → ∀ b, b < 2 → a ≠ b → (TX3 a).2.1 ≠ (TX3 b).2.1 := by decide +kernel
theorem tyX3_ok : ∀ k, k < 2 → parseFieldDescriptor (TX3 k).2.2.1 = some (tyX3 k) := by decide +kernel
abbrev cX3_init : ByteArray := prog_5_method_1_code
def yX3_init : MethodName := ⟨RX3, "<init>", "()V"⟩
abbrev cX3_at : ByteArray := prog_5_method_2_code
def yX3_at : MethodName := ⟨RX3, "at", "(I)LLoaderModels$Loader;"⟩
abbrev cX3_add : ByteArray := prog_5_method_3_code
def yX3_add : MethodName := ⟨RX3, "add", "(LLoaderModels$Loader;)LLoaderModels$Loader;"⟩
abbrev cX3_knowsAnother : ByteArray := prog_5_method_4_code
def yX3_knowsAnother : MethodName := ⟨RX3, "knowsAnother", "(IILLoaderModels$Model;)Z"⟩
abbrev cX3_isBarred : ByteArray := prog_5_method_5_code
def yX3_isBarred : MethodName := ⟨RX3, "isBarred", "(LLoaderModels$Loader;ILLoaderModels$Model;)Z"⟩
abbrev cX3_bind : ByteArray := prog_5_method_6_code
def yX3_bind : MethodName := ⟨RX3, "bind", "(LLoaderModels$Loader;LLoaderModels$Loader;I)Z"⟩
abbrev cX3_anyKnown : ByteArray := prog_5_method_7_code
def yX3_anyKnown : MethodName := ⟨RX3, "anyKnown", "(II)LLoaderModels$Model;"⟩
def RX4 : String := "LoaderModels$Loading"
def TX4 : u_T := fun k => match k with
  | 0 => ("LoaderModels$Loading", "loaders", "LLoaderModels$Loaders;", true)
  | 1 => ("LoaderModels$Loading", "notes", "LLoaderModels$Notes;", true)
  | 2 => ("LoaderModels$Loading", "classes", "[LLoaderModels$Model;", true)
  | 3 => ("LoaderModels$Loading", "classCount", "I", false)
  | 4 => ("LoaderModels$Loading", "steps", "[LLoaderModels$Step;", true)
  | _ => ("LoaderModels$Loading", "depth", "I", false)
def tyX4 : Nat → FieldType := fun k => match k with
  | 0 => .object "LoaderModels$Loaders"
  | 1 => .object "LoaderModels$Notes"
  | 2 => .array (.object "LoaderModels$Model")
  | 3 => .int
  | 4 => .array (.object "LoaderModels$Step")
  | _ => .int
abbrev wsX40 : List Cond := u_ws RX4 TX4 6
theorem nmX4 : ∀ a, a < 6 → ∀ b, b < 6 → a ≠ b → (TX4 a).2.1 ≠ (TX4 b).2.1 := by decide +kernel
theorem tyX4_ok : ∀ k, k < 6 → parseFieldDescriptor (TX4 k).2.2.1 = some (tyX4 k) := by decide +kernel
abbrev cX4_init : ByteArray := prog_6_method_1_code
def yX4_init : MethodName := ⟨RX4, "<init>", "(LLoaderModels$Loaders;)V"⟩
abbrev cX4_classAt : ByteArray := prog_6_method_2_code
def yX4_classAt : MethodName := ⟨RX4, "classAt", "(I)LLoaderModels$Model;"⟩
abbrev cX4_loadBy : ByteArray := prog_6_method_3_code
def yX4_loadBy : MethodName := ⟨RX4, "loadBy", "(LLoaderModels$Loader;I)I"⟩
abbrev cX4_defineBy : ByteArray := prog_6_method_4_code
def yX4_defineBy : MethodName := ⟨RX4, "defineBy", "(LLoaderModels$Loader;LLoaderModels$ClassFile;)I"⟩
abbrev cX4_settle : ByteArray := prog_6_method_5_code
def yX4_settle : MethodName := ⟨RX4, "settle", "()I"⟩
abbrev cX4_open : ByteArray := prog_6_method_6_code
def yX4_open : MethodName := ⟨RX4, "open", "(LLoaderModels$Loader;ILLoaderModels$ClassFile;I)I"⟩
abbrev cX4_end : ByteArray := prog_6_method_7_code
def yX4_end : MethodName := ⟨RX4, "end", "(I)I"⟩
abbrev cX4_begin : ByteArray := prog_6_method_8_code
def yX4_begin : MethodName := ⟨RX4, "begin", "(LLoaderModels$Step;)I"⟩
abbrev cX4_askParent : ByteArray := prog_6_method_9_code
def yX4_askParent : MethodName := ⟨RX4, "askParent", "(LLoaderModels$Step;I)I"⟩
abbrev cX4_takeFromFirstParent : ByteArray := prog_6_method_10_code
def yX4_takeFromFirstParent : MethodName := ⟨RX4, "takeFromFirstParent", "(LLoaderModels$Step;I)I"⟩
abbrev cX4_takeFromParent : ByteArray := prog_6_method_11_code
def yX4_takeFromParent : MethodName := ⟨RX4, "takeFromParent", "(LLoaderModels$Step;I)I"⟩
abbrev cX4_tryItselfFirst : ByteArray := prog_6_method_12_code
def yX4_tryItselfFirst : MethodName := ⟨RX4, "tryItselfFirst", "(LLoaderModels$Step;)I"⟩
abbrev cX4_tryItself : ByteArray := prog_6_method_13_code
def yX4_tryItself : MethodName := ⟨RX4, "tryItself", "(LLoaderModels$Step;)I"⟩
abbrev cX4_beginToDefine : ByteArray := prog_6_method_14_code
def yX4_beginToDefine : MethodName := ⟨RX4, "beginToDefine", "(LLoaderModels$Step;)I"⟩
abbrev cX4_failureAtOnce : ByteArray := prog_6_method_15_code
def yX4_failureAtOnce : MethodName := ⟨RX4, "failureAtOnce", "(LLoaderModels$Loader;LLoaderModels$ClassFile;)I"⟩
abbrev cX4_takeAbove : ByteArray := prog_6_method_16_code
def yX4_takeAbove : MethodName := ⟨RX4, "takeAbove", "(LLoaderModels$Step;I)I"⟩
abbrev cX4_finish : ByteArray := prog_6_method_17_code
def yX4_finish : MethodName := ⟨RX4, "finish", "(LLoaderModels$Step;LLoaderModels$Model;)I"⟩
def RX5 : String := "LoaderModels$Model"
def TX5 : u_T := fun k => match k with
  | 0 => ("LoaderModels$Model", "number", "I", true)
  | 1 => ("LoaderModels$Model", "definer", "LLoaderModels$Loader;", true)
  | 2 => ("LoaderModels$Model", "file", "LLoaderModels$ClassFile;", true)
  | 3 => ("LoaderModels$Model", "above", "LLoaderModels$Model;", true)
  | 4 => ("LoaderModels$Model", "state", "I", false)
  | _ => ("LoaderModels$Model", "held", "J", false)
def tyX5 : Nat → FieldType := fun k => match k with
  | 0 => .int
  | 1 => .object "LoaderModels$Loader"
  | 2 => .object "LoaderModels$ClassFile"
  | 3 => .object "LoaderModels$Model"
  | 4 => .int
  | _ => .long
abbrev wsX50 : List Cond := u_ws RX5 TX5 6
theorem nmX5 : ∀ a, a < 6 → ∀ b, b < 6 → a ≠ b → (TX5 a).2.1 ≠ (TX5 b).2.1 := by decide +kernel
theorem tyX5_ok : ∀ k, k < 6 → parseFieldDescriptor (TX5 k).2.2.1 = some (tyX5 k) := by decide +kernel
abbrev cX5_init : ByteArray := prog_7_method_1_code
def yX5_init : MethodName := ⟨RX5, "<init>", "(ILLoaderModels$Loader;LLoaderModels$ClassFile;LLoaderModels$Model;)V"⟩
abbrev cX5_isOf : ByteArray := prog_7_method_2_code
def yX5_isOf : MethodName := ⟨RX5, "isOf", "(LLoaderModels$Model;)Z"⟩
abbrev cX5_startAfter : ByteArray := prog_7_method_3_code
def yX5_startAfter : MethodName := ⟨RX5, "startAfter", "(I)I"⟩
def RX6 : String := "LoaderModels$Notes"
def TX6 : u_T := fun k => match k with
  | 0 => ("LoaderModels$Notes", "ring", "[I", true)
  | 1 => ("LoaderModels$Notes", "next", "I", false)
  | 2 => ("LoaderModels$Notes", "kept", "I", false)
  | _ => ("LoaderModels$Notes", "ever", "I", false)
def tyX6 : Nat → FieldType := fun k => match k with
  | 0 => .array .int
  | 1 => .int
  | 2 => .int
  | _ => .int
abbrev wsX60 : List Cond := u_ws RX6 TX6 4
theorem nmX6 : ∀ a, a < 4 → ∀ b, b < 4 → a ≠ b → (TX6 a).2.1 ≠ (TX6 b).2.1 := by decide +kernel
theorem tyX6_ok : ∀ k, k < 4 → parseFieldDescriptor (TX6 k).2.2.1 = some (tyX6 k) := by decide +kernel
abbrev cX6_init : ByteArray := prog_8_method_1_code
def yX6_init : MethodName := ⟨RX6, "<init>", "()V"⟩
abbrev cX6_add : ByteArray := prog_8_method_2_code
def yX6_add : MethodName := ⟨RX6, "add", "(II)V"⟩
abbrev cX6_latest : ByteArray := prog_8_method_3_code
def yX6_latest : MethodName := ⟨RX6, "latest", "(I)I"⟩
def RX7 : String := "LoaderModels$Row"
def TX7 : u_T := fun k => match k with
  | 0 => ("LoaderModels$Row", "model", "LLoaderModels$Model;", true)
  | _ => ("LoaderModels$Row", "items", "[I", true)
def tyX7 : Nat → FieldType := fun k => match k with
  | 0 => .object "LoaderModels$Model"
  | _ => .array .int
abbrev wsX70 : List Cond := u_ws RX7 TX7 2
theorem nmX7 : ∀ a, a < 2 → ∀ b, b < 2 → a ≠ b → (TX7 a).2.1 ≠ (TX7 b).2.1 := by decide +kernel
theorem tyX7_ok : ∀ k, k < 2 → parseFieldDescriptor (TX7 k).2.2.1 = some (tyX7 k) := by decide +kernel
abbrev cX7_init : ByteArray := prog_9_method_1_code
def yX7_init : MethodName := ⟨RX7, "<init>", "(LLoaderModels$Model;I)V"⟩
abbrev cX7_hasPlace : ByteArray := prog_9_method_2_code
def yX7_hasPlace : MethodName := ⟨RX7, "hasPlace", "(I)Z"⟩
def RX8 : String := "LoaderModels$Step"
def TX8 : u_T := fun k => match k with
  | 0 => ("LoaderModels$Step", "loader", "LLoaderModels$Loader;", false)
  | 1 => ("LoaderModels$Step", "name", "I", false)
  | 2 => ("LoaderModels$Step", "file", "LLoaderModels$ClassFile;", false)
  | _ => ("LoaderModels$Step", "stage", "I", false)
def tyX8 : Nat → FieldType := fun k => match k with
  | 0 => .object "LoaderModels$Loader"
  | 1 => .int
  | 2 => .object "LoaderModels$ClassFile"
  | _ => .int
abbrev wsX80 : List Cond := u_ws RX8 TX8 4
theorem nmX8 : ∀ a, a < 4 → ∀ b, b < 4 → a ≠ b → (TX8 a).2.1 ≠ (TX8 b).2.1 := by decide +kernel
theorem tyX8_ok : ∀ k, k < 4 → parseFieldDescriptor (TX8 k).2.2.1 = some (tyX8 k) := by decide +kernel
abbrev cX8_init : ByteArray := prog_10_method_1_code
def yX8_init : MethodName := ⟨RX8, "<init>", "()V"⟩
def RX9 : String := "LoaderModels"
def TX9 : u_T := fun k => match k with
  | 0 => ("LoaderModels", "files", "[LLoaderModels$ClassFile;", true)
  | 1 => ("LoaderModels", "fileCount", "I", false)
  | 2 => ("LoaderModels", "loaders", "LLoaderModels$Loaders;", true)
  | 3 => ("LoaderModels", "loading", "LLoaderModels$Loading;", true)
  | 4 => ("LoaderModels", "objects", "[LLoaderModels$Model;", true)
  | 5 => ("LoaderModels", "objectCount", "I", false)
  | 6 => ("LoaderModels", "rows", "[LLoaderModels$Row;", true)
  | 7 => ("LoaderModels", "rowCount", "I", false)
  | 8 => ("LoaderModels", "toStart", "[LLoaderModels$Model;", true)
  | _ => ("LoaderModels", "latestFailure", "I", false)
def tyX9 : Nat → FieldType := fun k => match k with
  | 0 => .array (.object "LoaderModels$ClassFile")
  | 1 => .int
  | 2 => .object "LoaderModels$Loaders"
  | 3 => .object "LoaderModels$Loading"
  | 4 => .array (.object "LoaderModels$Model")
  | 5 => .int
  | 6 => .array (.object "LoaderModels$Row")
  | 7 => .int
  | 8 => .array (.object "LoaderModels$Model")
  | _ => .int
abbrev wsX90 : List Cond := u_ws RX9 TX9 10
theorem nmX9 : ∀ a, a < 10 → ∀ b, b < 10 → a ≠ b → (TX9 a).2.1 ≠ (TX9 b).2.1 := by decide +kernel
theorem tyX9_ok : ∀ k, k < 10 → parseFieldDescriptor (TX9 k).2.2.1 = some (tyX9 k) := by decide +kernel
abbrev cX9_init : ByteArray := prog_1_method_1_code
def yX9_init : MethodName := ⟨RX9, "<init>", "()V"⟩
abbrev cX9_loader : ByteArray := prog_1_method_2_code
def yX9_loader : MethodName := ⟨RX9, "loader", "(I)I"⟩
abbrev cX9_bound : ByteArray := prog_1_method_3_code
def yX9_bound : MethodName := ⟨RX9, "bound", "(II)I"⟩
abbrev cX9_file : ByteArray := prog_1_method_4_code
def yX9_file : MethodName := ⟨RX9, "file", "(IIIIZ)I"⟩
abbrev cX9_method : ByteArray := prog_1_method_5_code
def yX9_method : MethodName := ⟨RX9, "method", "(IIIII)I"⟩
abbrev cX9_bear : ByteArray := prog_1_method_6_code
def yX9_bear : MethodName := ⟨RX9, "bear", "(II)I"⟩
abbrev cX9_load : ByteArray := prog_1_method_7_code
def yX9_load : MethodName := ⟨RX9, "load", "(II)I"⟩
abbrev cX9_define : ByteArray := prog_1_method_8_code
def yX9_define : MethodName := ⟨RX9, "define", "(II)I"⟩
abbrev cX9_known : ByteArray := prog_1_method_9_code
def yX9_known : MethodName := ⟨RX9, "known", "(II)I"⟩
abbrev cX9_agree : ByteArray := prog_1_method_10_code
def yX9_agree : MethodName := ⟨RX9, "agree", "(III)I"⟩
abbrev cX9_apart : ByteArray := prog_1_method_11_code
def yX9_apart : MethodName := ⟨RX9, "apart", "(II)I"⟩
abbrev cX9_start : ByteArray := prog_1_method_12_code
def yX9_start : MethodName := ⟨RX9, "start", "(I)I"⟩
abbrev cX9_value : ByteArray := prog_1_method_13_code
def yX9_value : MethodName := ⟨RX9, "value", "(I)J"⟩
abbrev cX9_make : ByteArray := prog_1_method_14_code
def yX9_make : MethodName := ⟨RX9, "make", "(I)I"⟩
abbrev cX9_cast : ByteArray := prog_1_method_15_code
def yX9_cast : MethodName := ⟨RX9, "cast", "(II)I"⟩
abbrev cX9_row : ByteArray := prog_1_method_16_code
def yX9_row : MethodName := ⟨RX9, "row", "(II)I"⟩
abbrev cX9_put : ByteArray := prog_1_method_17_code
def yX9_put : MethodName := ⟨RX9, "put", "(III)I"⟩
abbrev cX9_get : ByteArray := prog_1_method_18_code
def yX9_get : MethodName := ⟨RX9, "get", "(II)I"⟩
abbrev cX9_castRow : ByteArray := prog_1_method_19_code
def yX9_castRow : MethodName := ⟨RX9, "castRow", "(II)I"⟩
abbrev cX9_call : ByteArray := prog_1_method_20_code
def yX9_call : MethodName := ⟨RX9, "call", "(IIJ)J"⟩
abbrev cX9_about : ByteArray := prog_1_method_21_code
def yX9_about : MethodName := ⟨RX9, "about", "(II)I"⟩
abbrev cX9_noted : ByteArray := prog_1_method_22_code
def yX9_noted : MethodName := ⟨RX9, "noted", "(I)I"⟩
abbrev cX9_told : ByteArray := prog_1_method_23_code
def yX9_told : MethodName := ⟨RX9, "told", "(I)I"⟩
abbrev cX9_isName : ByteArray := prog_1_method_24_code
def yX9_isName : MethodName := ⟨RX9, "isName", "(I)Z"⟩
abbrev cX9_isMethod : ByteArray := prog_1_method_25_code
def yX9_isMethod : MethodName := ⟨RX9, "isMethod", "(I)Z"⟩
abbrev cX9_failed : ByteArray := prog_1_method_26_code
def yX9_failed : MethodName := ⟨RX9, "failed", "(I)I"⟩
abbrev cX9_numberOf : ByteArray := prog_1_method_27_code
def yX9_numberOf : MethodName := ⟨RX9, "numberOf", "(LLoaderModels$Model;)I"⟩
abbrev cX9_fileAt : ByteArray := prog_1_method_28_code
def yX9_fileAt : MethodName := ⟨RX9, "fileAt", "(I)LLoaderModels$ClassFile;"⟩
abbrev cX9_classOfObject : ByteArray := prog_1_method_29_code
def yX9_classOfObject : MethodName := ⟨RX9, "classOfObject", "(I)LLoaderModels$Model;"⟩
abbrev cX9_rowAt : ByteArray := prog_1_method_30_code
def yX9_rowAt : MethodName := ⟨RX9, "rowAt", "(I)LLoaderModels$Row;"⟩
abbrev cX9_answered : ByteArray := prog_1_method_31_code
def yX9_answered : MethodName := ⟨RX9, "answered", "(I)I"⟩
abbrev cX9_started : ByteArray := prog_1_method_32_code
def yX9_started : MethodName := ⟨RX9, "started", "(LLoaderModels$Model;)I"⟩
abbrev cX9_product : ByteArray := prog_1_method_33_code
def yX9_product : MethodName := ⟨RX9, "product", "(LLoaderModels$Model;LLoaderModels$Body;J)J"⟩
def RX10 : String := "LoaderModelsModel"
def TX10 : u_T := fun k => match k with
  | 0 => ("LoaderModelsModel", "thrown", "I", false)
  | 1 => ("LoaderModelsModel", "files", "I", false)
  | 2 => ("LoaderModelsModel", "fileName", "[I", true)
  | 3 => ("LoaderModelsModel", "inner", "[I", true)
  | 4 => ("LoaderModelsModel", "above", "[I", true)
  | 5 => ("LoaderModelsModel", "content", "[I", true)
  | 6 => ("LoaderModelsModel", "isFinal", "[Z", true)
  | 7 => ("LoaderModelsModel", "kind", "[I", true)
  | 8 => ("LoaderModelsModel", "methodA", "[I", true)
  | 9 => ("LoaderModelsModel", "methodB", "[I", true)
  | 10 => ("LoaderModelsModel", "loaders", "I", false)
  | 11 => ("LoaderModelsModel", "parent", "[I", true)
  | 12 => ("LoaderModelsModel", "bound", "[I", true)
  | 13 => ("LoaderModelsModel", "has", "[I", true)
  | 14 => ("LoaderModelsModel", "knows", "[I", true)
  | 15 => ("LoaderModelsModel", "isDefining", "[Z", true)
  | 16 => ("LoaderModelsModel", "group", "[I", true)
  | 17 => ("LoaderModelsModel", "classes", "I", false)
  | 18 => ("LoaderModelsModel", "className", "[I", true)
  | 19 => ("LoaderModelsModel", "classLoader", "[I", true)
  | 20 => ("LoaderModelsModel", "classFile", "[I", true)
  | 21 => ("LoaderModelsModel", "classAbove", "[I", true)
  | 22 => ("LoaderModelsModel", "classState", "[I", true)
  | 23 => ("LoaderModelsModel", "fixed", "[J", true)
  | 24 => ("LoaderModelsModel", "lastFailure", "I", false)
  | 25 => ("LoaderModelsModel", "loads", "I", false)
  | 26 => ("LoaderModelsModel", "noted", "[I", true)
  | 27 => ("LoaderModelsModel", "sort", "[I", true)
  | 28 => ("LoaderModelsModel", "by", "[I", true)
  | 29 => ("LoaderModelsModel", "what", "[I", true)
  | 30 => ("LoaderModelsModel", "stage", "[I", true)
  | 31 => ("LoaderModelsModel", "turn", "[I", true)
  | 32 => ("LoaderModelsModel", "open", "I", false)
  | 33 => ("LoaderModelsModel", "came", "I", false)
  | 34 => ("LoaderModelsModel", "failure", "I", false)
  | 35 => ("LoaderModelsModel", "chain", "[I", true)
  | 36 => ("LoaderModelsModel", "objects", "I", false)
  | 37 => ("LoaderModelsModel", "objectClass", "[I", true)
  | 38 => ("LoaderModelsModel", "rows", "I", false)
  | 39 => ("LoaderModelsModel", "rowClass", "[I", true)
  | 40 => ("LoaderModelsModel", "rowSize", "[I", true)
  | _ => ("LoaderModelsModel", "rowItem", "[I", true)
def tyX10 : Nat → FieldType := fun k => match k with
  | 0 => .int
  | 1 => .int
  | 2 => .array .int
  | 3 => .array .int
  | 4 => .array .int
  | 5 => .array .int
  | 6 => .array .boolean
  | 7 => .array .int
  | 8 => .array .int
  | 9 => .array .int
  | 10 => .int
  | 11 => .array .int
  | 12 => .array .int
  | 13 => .array .int
  | 14 => .array .int
  | 15 => .array .boolean
  | 16 => .array .int
  | 17 => .int
  | 18 => .array .int
  | 19 => .array .int
  | 20 => .array .int
  | 21 => .array .int
  | 22 => .array .int
  | 23 => .array .long
  | 24 => .int
  | 25 => .int
  | 26 => .array .int
  | 27 => .array .int
  | 28 => .array .int
  | 29 => .array .int
  | 30 => .array .int
  | 31 => .array .int
  | 32 => .int
  | 33 => .int
  | 34 => .int
  | 35 => .array .int
  | 36 => .int
  | 37 => .array .int
  | 38 => .int
  | 39 => .array .int
  | 40 => .array .int
  | _ => .array .int
abbrev wsX100 : List Cond := u_ws RX10 TX10 42
theorem nmX10 : ∀ a, a < 42 → ∀ b, b < 42 → a ≠ b → (TX10 a).2.1 ≠ (TX10 b).2.1 := by decide +kernel
theorem tyX10_ok : ∀ k, k < 42 → parseFieldDescriptor (TX10 k).2.2.1 = some (tyX10 k) := by decide +kernel
abbrev cX10_in : ByteArray := prog_12_method_2_code
def yX10_in : MethodName := ⟨RX10, "in", "(JJJ)Z"⟩
abbrev cX10_init : ByteArray := prog_12_method_3_code
def yX10_init : MethodName := ⟨RX10, "<init>", "()V"⟩
abbrev cX10_fails : ByteArray := prog_12_method_4_code
def yX10_fails : MethodName := ⟨RX10, "fails", "(I)I"⟩
abbrev cX10_isLoader : ByteArray := prog_12_method_5_code
def yX10_isLoader : MethodName := ⟨RX10, "isLoader", "(I)Z"⟩
abbrev cX10_isFile : ByteArray := prog_12_method_6_code
def yX10_isFile : MethodName := ⟨RX10, "isFile", "(I)Z"⟩
abbrev cX10_isName : ByteArray := prog_12_method_7_code
def yX10_isName : MethodName := ⟨RX10, "isName", "(I)Z"⟩
abbrev cX10_isClass : ByteArray := prog_12_method_8_code
def yX10_isClass : MethodName := ⟨RX10, "isClass", "(I)Z"⟩
abbrev cX10_loader : ByteArray := prog_12_method_9_code
def yX10_loader : MethodName := ⟨RX10, "loader", "(I)I"⟩
abbrev cX10_bound : ByteArray := prog_12_method_10_code
def yX10_bound : MethodName := ⟨RX10, "bound", "(II)I"⟩
abbrev cX10_file : ByteArray := prog_12_method_11_code
def yX10_file : MethodName := ⟨RX10, "file", "(IIIIZ)I"⟩
abbrev cX10_method : ByteArray := prog_12_method_12_code
def yX10_method : MethodName := ⟨RX10, "method", "(IIIII)I"⟩
abbrev cX10_bear : ByteArray := prog_12_method_13_code
def yX10_bear : MethodName := ⟨RX10, "bear", "(II)I"⟩
abbrev cX10_push : ByteArray := prog_12_method_14_code
def yX10_push : MethodName := ⟨RX10, "push", "(III)V"⟩
abbrev cX10_ends : ByteArray := prog_12_method_15_code
def yX10_ends : MethodName := ⟨RX10, "ends", "(I)V"⟩
abbrev cX10_gives : ByteArray := prog_12_method_16_code
def yX10_gives : MethodName := ⟨RX10, "gives", "(I)V"⟩
abbrev cX10_isBarred : ByteArray := prog_12_method_17_code
def yX10_isBarred : MethodName := ⟨RX10, "isBarred", "(III)Z"⟩
abbrev cX10_oneLoad : ByteArray := prog_12_method_18_code
def yX10_oneLoad : MethodName := ⟨RX10, "oneLoad", "(I)V"⟩
abbrev cX10_oneDefining : ByteArray := prog_12_method_19_code
def yX10_oneDefining : MethodName := ⟨RX10, "oneDefining", "(I)V"⟩
abbrev cX10_makes : ByteArray := prog_12_method_20_code
def yX10_makes : MethodName := ⟨RX10, "makes", "(III)V"⟩
abbrev cX10_goes : ByteArray := prog_12_method_21_code
def yX10_goes : MethodName := ⟨RX10, "goes", "(III)I"⟩
abbrev cX10_load : ByteArray := prog_12_method_22_code
def yX10_load : MethodName := ⟨RX10, "load", "(II)I"⟩
abbrev cX10_define : ByteArray := prog_12_method_23_code
def yX10_define : MethodName := ⟨RX10, "define", "(II)I"⟩
abbrev cX10_known : ByteArray := prog_12_method_24_code
def yX10_known : MethodName := ⟨RX10, "known", "(II)I"⟩
abbrev cX10_agree : ByteArray := prog_12_method_25_code
def yX10_agree : MethodName := ⟨RX10, "agree", "(III)I"⟩
abbrev cX10_apart : ByteArray := prog_12_method_26_code
def yX10_apart : MethodName := ⟨RX10, "apart", "(II)I"⟩
abbrev cX10_started : ByteArray := prog_12_method_27_code
def yX10_started : MethodName := ⟨RX10, "started", "(I)I"⟩
abbrev cX10_start : ByteArray := prog_12_method_28_code
def yX10_start : MethodName := ⟨RX10, "start", "(I)I"⟩
abbrev cX10_value : ByteArray := prog_12_method_29_code
def yX10_value : MethodName := ⟨RX10, "value", "(I)J"⟩
abbrev cX10_make : ByteArray := prog_12_method_30_code
def yX10_make : MethodName := ⟨RX10, "make", "(I)I"⟩
abbrev cX10_isOf : ByteArray := prog_12_method_31_code
def yX10_isOf : MethodName := ⟨RX10, "isOf", "(II)Z"⟩
abbrev cX10_isObject : ByteArray := prog_12_method_32_code
def yX10_isObject : MethodName := ⟨RX10, "isObject", "(I)Z"⟩
abbrev cX10_isRow : ByteArray := prog_12_method_33_code
def yX10_isRow : MethodName := ⟨RX10, "isRow", "(I)Z"⟩
abbrev cX10_cast : ByteArray := prog_12_method_34_code
def yX10_cast : MethodName := ⟨RX10, "cast", "(II)I"⟩
abbrev cX10_row : ByteArray := prog_12_method_35_code
def yX10_row : MethodName := ⟨RX10, "row", "(II)I"⟩
abbrev cX10_put : ByteArray := prog_12_method_36_code
def yX10_put : MethodName := ⟨RX10, "put", "(III)I"⟩
abbrev cX10_get : ByteArray := prog_12_method_37_code
def yX10_get : MethodName := ⟨RX10, "get", "(II)I"⟩
abbrev cX10_castRow : ByteArray := prog_12_method_38_code
def yX10_castRow : MethodName := ⟨RX10, "castRow", "(II)I"⟩
abbrev cX10_call : ByteArray := prog_12_method_39_code
def yX10_call : MethodName := ⟨RX10, "call", "(IIJ)J"⟩
abbrev cX10_about : ByteArray := prog_12_method_40_code
def yX10_about : MethodName := ⟨RX10, "about", "(II)I"⟩
abbrev cX10_noted : ByteArray := prog_12_method_41_code
def yX10_noted : MethodName := ⟨RX10, "noted", "(I)I"⟩
abbrev cX10_told : ByteArray := prog_12_method_42_code
def yX10_told : MethodName := ⟨RX10, "told", "(I)I"⟩
def RJ9 : String := "java/lang/Math"
def TJ9 : u_T := fun k => match k with
  | _ => ("", "", "", false)
def tyJ9 : Nat → FieldType := fun k => match k with
  | _ => .int
abbrev wsJ90 : List Cond := u_ws RJ9 TJ9 0
theorem nmJ9 : ∀ a, a < 0 → ∀ b, b < 0 → a ≠ b → (TJ9 a).2.1 ≠ (TJ9 b).2.1 := by decide +kernel
theorem tyJ9_ok : ∀ k, k < 0 → parseFieldDescriptor (TJ9 k).2.2.1 = some (tyJ9 k) := by decide +kernel
abbrev cJ9_min_7cf53 : ByteArray := prog_13_method_69_code
def yJ9_min_7cf53 : MethodName := ⟨RJ9, "min", "(II)I"⟩
def RL : String := "LoaderModelsLaw"
abbrev cL_law : ByteArray := code
def yL_law : MethodName := ⟨RL, "law", "([I)Z"⟩
abbrev vwCl : List vw_C := [(RX0, TX0, 3), (RX1, TX1, 7), (RX2, TX2, 7), (RX3, TX3, 2), (RX4, TX4, 6), (RX5, TX5, 6), (RX6, TX6, 4), (RX7, TX7, 2), (RX8, TX8, 4), (RX9, TX9, 10), (RX10, TX10, 42)]
end
section
/-! THE LOGICAL HEAP: objects and arrays by kind and number; kinds 0 to 10 are the classes of vwCl, from 11 on the arrays by their places -/
def lh_u3 {α : Type} (f : Nat → Nat → Nat → α) (a b c : Nat) (v : α) : Nat → Nat → Nat → α := fun x y z => if x = a ∧ y = b ∧ z = c then v else f x y z
def lh_u2 {α : Type} (f : Nat → Nat → α) (a b : Nat) (v : α) : Nat → Nat → α := fun x y => if x = a ∧ y = b then v else f x y
def lh_d3 {α : Type} (f : Nat → Nat → Nat → α) (a b : Nat) (v : α) : Nat → Nat → Nat → α := fun x y z => if x = a ∧ y = b then v else f x y z
abbrev lh_S : Type := (Nat → Nat) × (Nat → Nat → Nat) × (Nat → Nat → Nat → Int32) × (Nat → Nat → Nat → Int64) × (Nat → Nat → Nat → Option Nat)
def gvN (S : lh_S) : Nat → Nat := S.1
def gvL (S : lh_S) : Nat → Nat → Nat := S.2.1
def gvI (S : lh_S) : Nat → Nat → Nat → Int32 := S.2.2.1
def gvJ (S : lh_S) : Nat → Nat → Nat → Int64 := S.2.2.2.1
def gvR (S : lh_S) : Nat → Nat → Nat → Option Nat := S.2.2.2.2
def pvI (S : lh_S) (a b c : Nat) (v : Int32) : lh_S := (S.1, S.2.1, lh_u3 S.2.2.1 a b c v, S.2.2.2.1, S.2.2.2.2)
def pvJ (S : lh_S) (a b c : Nat) (v : Int64) : lh_S := (S.1, S.2.1, S.2.2.1, lh_u3 S.2.2.2.1 a b c v, S.2.2.2.2)
def pvR (S : lh_S) (a b c : Nat) (v : Option Nat) : lh_S := (S.1, S.2.1, S.2.2.1, S.2.2.2.1, lh_u3 S.2.2.2.2 a b c v)
/-- one more of a kind, of a length, with nothing in it -/
def pvN (S : lh_S) (a n : Nat) : lh_S := (va_up S.1 a (S.1 a + 1), lh_u2 S.2.1 a (S.1 a) n, lh_d3 S.2.2.1 a (S.1 a) 0, lh_d3 S.2.2.2.1 a (S.1 a) 0, lh_d3 S.2.2.2.2 a (S.1 a) none)
/-- what a kind's places hold: 0 ints, 1 longs, t + 2 references to kind t -/
def lh_tc (a k : Nat) : Nat := match a, k with
  | 0, 0 => 0 | 0, _ => 1
  | 1, 6 => 13 | 1, _ => 0
  | 2, 1 => 4 | 2, 3 => 14 | 2, 4 => 15 | 2, 5 => 16 | 2, 6 => 17 | 2, _ => 0
  | 3, 0 => 18 | 3, _ => 0
  | 4, 0 => 5 | 4, 1 => 8 | 4, 2 => 19 | 4, 4 => 20 | 4, _ => 0
  | 5, 1 => 4 | 5, 2 => 3 | 5, 3 => 7 | 5, 5 => 1 | 5, _ => 0
  | 6, 0 => 21 | 6, _ => 0
  | 7, 0 => 7 | 7, _ => 22
  | 8, 0 => 4 | 8, 2 => 3 | 8, _ => 0
  | 9, 0 => 23 | 9, 2 => 5 | 9, 3 => 6 | 9, 4 => 24 | 9, 6 => 25 | 9, 8 => 26 | 9, _ => 0
  | 10, 0 => 0 | 10, 1 => 0 | 10, 10 => 0 | 10, 17 => 0 | 10, 24 => 0 | 10, 25 => 0 | 10, 32 => 0 | 10, 33 => 0 | 10, 34 => 0 | 10, 36 => 0 | 10, 38 => 0
  | 10, k => k + 32
  | 11, _ => 2 | 12, _ => 3 | 13, _ => 7 | 16, _ => 4 | 17, _ => 7 | 18, _ => 10 | 21, _ => 3 | 22, _ => 7 | 23, _ => 9 | 24, _ => 7
  | 53, _ => 1
  | _, _ => 0
/-- which arrays a kind is of: a place in lh_tys -/
def lh_ar (a : Nat) : Option Nat := match a with
  | 0 => none | 1 => none | 2 => none | 3 => none | 4 => none | 5 => none | 6 => none | 7 => none | 8 => none | 9 => none | 10 => none
  | 11 => some 3 | 12 => some 4 | 13 => some 6 | 14 => some 1 | 16 => some 5 | 17 => some 6 | 18 => some 8 | 21 => some 4 | 22 => some 6 | 23 => some 7 | 24 => some 6
  | 36 => some 1 | 45 => some 1 | 53 => some 2
  | _ => some 0
def lh_nf (a : Nat) : Nat := match a with
  | 0 => 3 | 1 => 7 | 2 => 7 | 3 => 2 | 4 => 6 | 5 => 6 | 6 => 4 | 7 => 2 | 8 => 4 | 9 => 10 | 10 => 42 | _ => 0
def lh_tys (cT : Nat → ClassId) : List (ClassId × FieldType) := [(cT 0, .int), (cT 1, .boolean), (cT 2, .long), (cT 3, .object RX0), (cT 4, .object RX1), (cT 5, .object RX2), (cT 6, .object RX5), (cT 7, .object RX7), (cT 8, .object RX8)]
/-- a reference to an object of kind t, or null -/
def lh_r (ad : Nat → Nat → Nat) (t : Nat) (o : Option Nat) : Value := va_rf (o.map (ad t))
def lh_val (S : lh_S) (ad : Nat → Nat → Nat) (a i k : Nat) : Value := match lh_tc a k with
  | 0 => .int (gvI S a i k)
  | 1 => .long (gvJ S a i k)
  | t + 2 => lh_r ad t (gvR S a i k)
def lh_con (S : lh_S) (ad : Nat → Nat → Nat) (a i : Nat) : (Nat → Int32) ⊕ (Nat → Int64) ⊕ (Nat → UInt32) ⊕ (Nat → UInt64) ⊕ (Nat → Option Nat) := match lh_tc a 0 with
  | 0 => .inl (gvI S a i)
  | 1 => .inr (.inl (gvJ S a i))
  | t + 2 => .inr (.inr (.inr (.inr (fun j => (gvR S a i j).map (ad t)))))
def lh_cell (cT : Nat → ClassId) (S : lh_S) (ad : Nat → Nat → Nat) (a i : Nat) : va_E := match lh_ar a with
  | none => .inr (a, (List.range (lh_nf a)).map (lh_val S ad a i))
  | some t => .inl (cT t, gvL S a i, lh_con S ad a i)
/-- no reference leads to what is not there -/
def lh_ok (S : lh_S) : Prop := ∀ a i k t j : Nat, i < gvN S a → lh_tc a k = t + 2 → gvR S a i k = some j → j < gvN S t
def lh_W (D : va_G) (cT : Nat → ClassId) (S : lh_S) (ad : Nat → Nat → Nat) (A : Nat → Prop) (H : Heap) : Prop :=
  ∃ ws : va_W, va_P D vwCl ws H ∧ va_D A ws ∧ (∀ a i : Nat, i < gvN S a → ∃ q : Nat, ws[q]? = some (ad a i, lh_cell cT S ad a i)) ∧ (∀ a i b j : Nat, i < gvN S a → j < gvN S b → ad a i = ad b j → a = b ∧ i = j) ∧ lh_ok S
abbrev lh_K (D : va_G) (cT : Nat → ClassId) (U : State) : Prop := va_K D vwCl (lh_tys cT) U
/-- a place of the world is changed -/
theorem lh_W_set {D : va_G} {cT : Nat → ClassId} {S S' : lh_S} {ad : Nat → Nat → Nat} {A : Nat → Prop} {H1 : Heap} {ws : va_W} {q0 a i : Nat} {e : va_E}
    (hq : ws[q0]? = some (ad a i, lh_cell cT S ad a i)) (hi : i < gvN S a) (hD : va_D A ws) (h1 : ∀ b j : Nat, j < gvN S b → ∃ q : Nat, ws[q]? = some (ad b j, lh_cell cT S ad b j)) (h2 : ∀ b j b' j' : Nat, j < gvN S b → j' < gvN S b' → ad b j = ad b' j' → b = b' ∧ j = j')
    (hP1 : va_P D vwCl (ws.set q0 (ad a i, e)) H1) (hD1 : va_D A (ws.set q0 (ad a i, e))) (hN : gvN S' = gvN S) (he : lh_cell cT S' ad a i = e) (ho : ∀ b j : Nat, ¬ (b = a ∧ j = i) → lh_cell cT S' ad b j = lh_cell cT S ad b j) (hok : lh_ok S') : lh_W D cT S' ad A H1 := by
  have hl := (List.getElem?_eq_some_iff.mp hq).1
  refine ⟨_, hP1, hD1, fun b j hj => ?_, by rw [hN]; exact h2, hok⟩
  rw [hN] at hj
  by_cases hb : b = a ∧ j = i
  · obtain ⟨rfl, rfl⟩ := hb
    exact ⟨q0, by rw [List.getElem?_set_self hl, he]⟩
  · obtain ⟨q, hq2⟩ := h1 b j hj
    refine ⟨q, ?_⟩
    have hne : q0 ≠ q := fun z => by
      subst z
      rw [hq] at hq2
      exact hb (h2 b j a i hj hi (congrArg Prod.fst (Option.some.inj hq2)).symm)
    rw [List.getElem?_set_ne hne, hq2, ho b j hb]
theorem lh_u3_s {α : Type} {f : Nat → Nat → Nat → α} {a b c : Nat} {v : α} : lh_u3 f a b c v a b c = v := by simp [lh_u3]
theorem lh_u3_n {α : Type} {f : Nat → Nat → Nat → α} {a b c x y z : Nat} {v : α} (h : ¬ (x = a ∧ y = b ∧ z = c)) : lh_u3 f a b c v x y z = f x y z := by simp only [lh_u3, if_neg h]
/-- the cell of another object doesn't change -/
theorem lh_cell_c {cT : Nat → ClassId} {S S' : lh_S} {ad : Nat → Nat → Nat} {b j : Nat} (hL : gvL S' b j = gvL S b j) (hI : ∀ k, gvI S' b j k = gvI S b j k) (hJ : ∀ k, gvJ S' b j k = gvJ S b j k) (hR : ∀ k, gvR S' b j k = gvR S b j k) : lh_cell cT S' ad b j = lh_cell cT S ad b j := by
  have e1 : lh_val S' ad b j = lh_val S ad b j := by
    funext k
    unfold lh_val
    rw [hI, hJ, hR]
  have e2 : lh_con S' ad b j = lh_con S ad b j := by
    unfold lh_con
    rw [show gvI S' b j = gvI S b j from funext hI, show gvJ S' b j = gvJ S b j from funext hJ, show gvR S' b j = gvR S b j from funext hR]
  unfold lh_cell
  rw [e1, e2, hL]
theorem lh_list_set (f g : Nat → Value) (n k : Nat) (v : Value) (hg : ∀ j, j ≠ k → g j = f j) (hv : g k = v) : ((List.range n).map f).set k v = (List.range n).map g := by
  apply List.ext_getElem?
  intro j
  by_cases hj : k = j
  · subst hj
    by_cases hn : k < n
    · rw [List.getElem?_set_self (by simpa using hn)]
      simp [hn, hv]
    · rw [List.getElem?_eq_none (by simp; omega), List.getElem?_eq_none (by simp; omega)]
  · rw [List.getElem?_set_ne hj]
    by_cases hn : j < n
    · simp [hn, hg j (Ne.symm hj)]
    · rw [List.getElem?_eq_none (by simp; omega), List.getElem?_eq_none (by simp; omega)]
end
section
/-- what a change of one place does to the logical heap -/
def lh_Ch (S S' : lh_S) (ad : Nat → Nat → Nat) (a i k : Nat) (v : Value) : Prop :=
  gvN S' = gvN S ∧ (∀ j, j ≠ k → lh_val S' ad a i j = lh_val S ad a i j) ∧ lh_val S' ad a i k = v ∧ (∀ (cT : Nat → ClassId) (b j : Nat), ¬ (b = a ∧ j = i) → lh_cell cT S' ad b j = lh_cell cT S ad b j) ∧ lh_ok S' ∧ gvL S' = gvL S
theorem lh_chI {S : lh_S} {ad : Nat → Nat → Nat} {a i k : Nat} {v : Int32} (ht : lh_tc a k = 0) (hok : lh_ok S) : lh_Ch S (pvI S a i k v) ad a i k (.int v) := by
  refine ⟨rfl, fun j hj => ?_, ?_, fun cT b j hb => ?_, fun b j q t x h1 h2 h3 => hok b j q t x h1 h2 h3, rfl⟩
  · have e : gvI (pvI S a i k v) a i j = gvI S a i j := lh_u3_n (fun z => hj z.2.2)
    unfold lh_val
    rw [e]
    rfl
  · have e : gvI (pvI S a i k v) a i k = v := lh_u3_s
    unfold lh_val
    rw [ht, e]
  · exact lh_cell_c rfl (fun q => lh_u3_n (fun z => hb ⟨z.1, z.2.1⟩)) (fun _ => rfl) (fun _ => rfl)
theorem lh_chJ {S : lh_S} {ad : Nat → Nat → Nat} {a i k : Nat} {v : Int64} (ht : lh_tc a k = 1) (hok : lh_ok S) : lh_Ch S (pvJ S a i k v) ad a i k (.long v) := by
  refine ⟨rfl, fun j hj => ?_, ?_, fun cT b j hb => ?_, fun b j q t x h1 h2 h3 => hok b j q t x h1 h2 h3, rfl⟩
  · have e : gvJ (pvJ S a i k v) a i j = gvJ S a i j := lh_u3_n (fun z => hj z.2.2)
    unfold lh_val
    rw [e]
    rfl
  · have e : gvJ (pvJ S a i k v) a i k = v := lh_u3_s
    unfold lh_val
    rw [ht, e]
  · exact lh_cell_c rfl (fun _ => rfl) (fun q => lh_u3_n (fun z => hb ⟨z.1, z.2.1⟩)) (fun _ => rfl)
theorem lh_okR {S : lh_S} {a i k t : Nat} {o : Option Nat} (ht : lh_tc a k = t + 2) (ho : ∀ j, o = some j → j < gvN S t) (hok : lh_ok S) : lh_ok (pvR S a i k o) := by
  intro b j q t2 x h1 h2 h3
  by_cases hz : b = a ∧ j = i ∧ q = k
  · obtain ⟨rfl, rfl, rfl⟩ := hz
    have e : gvR (pvR S b j q o) b j q = o := lh_u3_s
    rw [e] at h3
    have : t2 = t := by omega
    subst this
    exact ho x h3
  · have e : gvR (pvR S a i k o) b j q = gvR S b j q := lh_u3_n hz
    rw [e] at h3
    exact hok b j q t2 x h1 h2 h3
theorem lh_chR {S : lh_S} {ad : Nat → Nat → Nat} {a i k t : Nat} {o : Option Nat} (ht : lh_tc a k = t + 2) (ho : ∀ j, o = some j → j < gvN S t) (hok : lh_ok S) : lh_Ch S (pvR S a i k o) ad a i k (lh_r ad t o) := by
  refine ⟨rfl, fun j hj => ?_, ?_, fun cT b j hb => ?_, lh_okR ht ho hok, rfl⟩
  · have e : gvR (pvR S a i k o) a i j = gvR S a i j := lh_u3_n (fun z => hj z.2.2)
    unfold lh_val
    rw [e]
    rfl
  · have e : gvR (pvR S a i k o) a i k = o := lh_u3_s
    unfold lh_val
    rw [ht, e]
  · exact lh_cell_c rfl (fun _ => rfl) (fun _ => rfl) (fun q => lh_u3_n (fun z => hb ⟨z.1, z.2.1⟩))
theorem lh_nar_r {ad : Nat → Nat → Nat} {t : Nat} {o : Option Nat} {C : String} : narrow (.object C) (lh_r ad t o) = lh_r ad t o := by cases o <;> rfl
theorem lh_fit_r {ad : Nat → Nat → Nat} {t : Nat} {o : Option Nat} {C : String} : fits (.object C) (lh_r ad t o) = true := by cases o <;> rfl
theorem lh_nar_a {ad : Nat → Nat → Nat} {t : Nat} {o : Option Nat} {C : FieldType} : narrow (.array C) (lh_r ad t o) = lh_r ad t o := by cases o <;> rfl
theorem lh_fit_a {ad : Nat → Nat → Nat} {t : Nat} {o : Option Nat} {C : FieldType} : fits (.array C) (lh_r ad t o) = true := by cases o <;> rfl
theorem lh_cat_r {ad : Nat → Nat → Nat} {t : Nat} {o : Option Nat} : (lh_r ad t o).category = 1 := by cases o <;> rfl
theorem lh_nar_z {v : Int32} (h : v = 0 ∨ v = 1) : narrow .boolean (.int v) = .int v := by rcases h with rfl | rfl <;> rfl
/-- the same numbers have the same addresses in a world that has grown -/
def lh_E (S : lh_S) (ad ad' : Nat → Nat → Nat) : Prop := ∀ b j : Nat, j < gvN S b → ad' b j = ad b j
section LH
variable {p : Program} {l : Launch} {e : Env} {R : Room} {s : State} {m : MethodId} {args : Array Value} {below : List Frame} {meth : Method} {c : Code} {H : Heap} {locs : List Loc} {cells slots : Nat} {Q : State → Prop}
variable {cc : ByteArray} {pc : Nat} {ls : Array Slot} {rest : List Value} {D : va_G} {cT : Nat → ClassId} {S : lh_S} {ad : Nat → Nat → Nat} {A : Nat → Prop} {H0 : Heap}
theorem lh_get (hexec : p.tables.exec = Jvm.exec) (hb : c.code = cc) {own ref C : String} {T : u_T} {N a k i index : Nat} {Ts : List Cond} (hts : ∀ w ∈ Ts, w.before args s = true) (hin : ∀ w ∈ u_ws C T N, w ∈ Ts) (hown : s.vm.findClass own = some m.cls) (hK : lh_K D cT s) (hW : lh_W D cT S ad A H) {o : Option Nat} (ho : o = some i) (hi : i < gvN S a) (hc : vwCl[a]? = some (C, T, N)) (hn : lh_nf a = N) (har : lh_ar a = none) (hk : k < N)
    (hlink : (Cond.fieldLink own index ref (T k).2.1 (T k).2.2.1).before args s = true) (hsame : ∀ x, s.fieldFound? (T k).1 (T k).2.1 (T k).2.2.1 = some x → s.fieldFound? ref (T k).2.1 (T k).2.2.1 = some x) (hdg : decode cc pc = .ok (.getfield index, 3))
    {v : Value} (hv : lh_val S ad a i k = v) (kk : W p l e R s m args below meth c H locs cells slots Q (F0 m (pc + 3) ls (v :: rest))) : W p l e R s m args below meth c H locs cells slots Q (F0 m pc ls (lh_r ad a o :: rest)) := by
  subst ho
  obtain ⟨ws, hP, hD, h1, h2, hok⟩ := hW
  obtain ⟨q, hq⟩ := h1 a i hi
  rw [lh_cell, har, hn] at hq
  exact va_get hexec hb hts hin hown hK hP q hq hc k hk hlink hsame (v := v) (by rw [List.getElem?_map, List.getElem?_range hk]; exact congrArg some hv) hdg kk
theorem lh_put (hexec : p.tables.exec = Jvm.exec) (hb : c.code = cc) {own ref C : String} {T : u_T} {N a k i index : Nat} {Ts : List Cond} (hts : ∀ w ∈ Ts, w.before args s = true) (hin : ∀ w ∈ u_ws C T N, w ∈ Ts) (ty0 : Nat → FieldType) (hty : ∀ k, k < N → parseFieldDescriptor (T k).2.2.1 = some (ty0 k)) (hnm : ∀ a, a < N → ∀ b, b < N → a ≠ b → (T a).2.1 ≠ (T b).2.1) (hown : s.vm.findClass own = some m.cls) (hK : lh_K D cT s) (hW : lh_W D cT S ad A H) (hS0 : va_S A H0 H locs) {o : Option Nat} (ho : o = some i) (hi : i < gvN S a) (hc : vwCl[a]? = some (C, T, N)) (hn0 : lh_nf a = N) (har : lh_ar a = none) (hk : k < N)
    (hlink : (Cond.fieldLink own index ref (T k).2.1 (T k).2.2.1).before args s = true) (hsame : ∀ x, s.fieldFound? (T k).1 (T k).2.1 (T k).2.2.1 = some x → s.fieldFound? ref (T k).2.1 (T k).2.2.1 = some x) (hfin : (T k).2.2.2 = false ∨ ((T k).2.2.2 = true ∧ meth.name = "<init>" ∧ (T k).1 = own)) {ty : FieldType} {v : Value} (hd : parseFieldDescriptor (T k).2.2.1 = some ty) (hn : narrow ty v = v) (hfit : fits ty v = true) {S' : lh_S} (hch : lh_ok S → lh_Ch S S' ad a i k v)
    (hdg : decode cc pc = .ok (.putfield index, 3)) (kk : ∀ (H1 : Heap) (locs1 : List Loc), lh_W D cT S' ad A H1 → va_S A H0 H1 locs1 → W p l e R s m args below meth c H1 locs1 cells slots Q (F0 m (pc + 3) ls rest)) : W p l e R s m args below meth c H locs cells slots Q (F0 m pc ls (v :: lh_r ad a o :: rest)) := by
  subst ho
  obtain ⟨ws, hP, hD, h1, h2, hok⟩ := hW
  obtain ⟨q, hq0⟩ := h1 a i hi
  obtain ⟨c1, c2, c3, c4, c5, c6⟩ := hch hok
  have hq := hq0
  rw [lh_cell, har, hn0] at hq
  have hset : ((List.range N).map (lh_val S ad a i)).set k v = (List.range N).map (lh_val S' ad a i) := lh_list_set _ _ N k v c2 c3
  have he : lh_cell cT S' ad a i = .inr (a, ((List.range N).map (lh_val S ad a i)).set k v) := by rw [lh_cell, har, hn0, hset]
  rcases hfin with hf | ⟨hf, hi2, hde⟩
  · exact va_put hexec hb hts hin ty0 hty hnm hown hK hP hD hS0 q hq hc k hk hlink hsame hf hd hn hfit (by simpa using hk) hdg (fun H1 locs1 hP1 hD1 hS1 => kk H1 locs1 (lh_W_set hq0 hi hD h1 h2 hP1 hD1 c1 he (c4 cT) c5) hS1)
  · exact va_putF hexec hb hts hin ty0 hty hnm hown hK hP hD hS0 q hq hc k hk hlink hsame hf hi2 hde hd hn hfit (by simpa using hk) hdg (fun H1 locs1 hP1 hD1 hS1 => kk H1 locs1 (lh_W_set hq0 hi hD h1 h2 hP1 hD1 c1 he (c4 cT) c5) hS1)
theorem lh_vin {i : Int32} {n : Nat} (h : ¬ (i < 0 ∨ n ≤ i.toNatClampNeg)) : vp_in i n := h
theorem lh_ald_i (hexec : p.tables.exec = Jvm.exec) (hb : c.code = cc) (hK : lh_K D cT s) (hW : lh_W D cT S ad A H) {a i : Nat} {o : Option Nat} (ho : o = some i) (hi : i < gvN S a) (har : lh_ar a = some 0) (htc : lh_tc a 0 = 0) {x : Int32} (hin : ¬ (x < 0 ∨ gvL S a i ≤ x.toNatClampNeg)) (hdg : decode cc pc = .ok (.iaload, 1))
    (kk : W p l e R s m args below meth c H locs cells slots Q (F0 m (pc + 1) ls (.int (gvI S a i x.toNatClampNeg) :: rest))) : W p l e R s m args below meth c H locs cells slots Q (F0 m pc ls (.int x :: lh_r ad a o :: rest)) := by
  subst ho
  obtain ⟨ws, hP, hD, h1, h2, hok⟩ := hW
  obtain ⟨q, hq⟩ := h1 a i hi
  rw [lh_cell, har] at hq
  have hq : ws[q]? = some (ad a i, .inl (cT 0, gvL S a i, .inl (gvI S a i))) := by rw [hq]; simp only [lh_con, htc]
  exact va_iald hexec hb hK hP q 0 hq rfl hin hdg kk
theorem lh_ald_z (hexec : p.tables.exec = Jvm.exec) (hb : c.code = cc) (hK : lh_K D cT s) (hW : lh_W D cT S ad A H) {a i : Nat} {o : Option Nat} (ho : o = some i) (hi : i < gvN S a) (har : lh_ar a = some 1) (htc : lh_tc a 0 = 0) {x : Int32} (hin : ¬ (x < 0 ∨ gvL S a i ≤ x.toNatClampNeg)) (hdg : decode cc pc = .ok (.baload, 1))
    (kk : W p l e R s m args below meth c H locs cells slots Q (F0 m (pc + 1) ls (.int (gvI S a i x.toNatClampNeg) :: rest))) : W p l e R s m args below meth c H locs cells slots Q (F0 m pc ls (.int x :: lh_r ad a o :: rest)) := by
  subst ho
  obtain ⟨ws, hP, hD, h1, h2, hok⟩ := hW
  obtain ⟨q, hq⟩ := h1 a i hi
  rw [lh_cell, har] at hq
  have hq : ws[q]? = some (ad a i, .inl (cT 1, gvL S a i, .inl (gvI S a i))) := by rw [hq]; simp only [lh_con, htc]
  exact va_zald hexec hb hK hP q 1 hq rfl hin hdg kk
theorem lh_ald_l (hexec : p.tables.exec = Jvm.exec) (hb : c.code = cc) (hK : lh_K D cT s) (hW : lh_W D cT S ad A H) {a i : Nat} {o : Option Nat} (ho : o = some i) (hi : i < gvN S a) (har : lh_ar a = some 2) (htc : lh_tc a 0 = 1) {x : Int32} (hin : ¬ (x < 0 ∨ gvL S a i ≤ x.toNatClampNeg)) (hdg : decode cc pc = .ok (.laload, 1))
    (kk : W p l e R s m args below meth c H locs cells slots Q (F0 m (pc + 1) ls (.long (gvJ S a i x.toNatClampNeg) :: rest))) : W p l e R s m args below meth c H locs cells slots Q (F0 m pc ls (.int x :: lh_r ad a o :: rest)) := by
  subst ho
  obtain ⟨ws, hP, hD, h1, h2, hok⟩ := hW
  obtain ⟨q, hq⟩ := h1 a i hi
  rw [lh_cell, har] at hq
  have hq : ws[q]? = some (ad a i, .inl (cT 2, gvL S a i, .inr (.inl (gvJ S a i)))) := by rw [hq]; simp only [lh_con, htc]
  exact va_lald hexec hb hK hP q 2 hq rfl hin hdg kk
theorem lh_ald_r (hexec : p.tables.exec = Jvm.exec) (hb : c.code = cc) (hK : lh_K D cT s) (hW : lh_W D cT S ad A H) {a i t0 t : Nat} {C : String} {o : Option Nat} (ho : o = some i) (hi : i < gvN S a) (har : lh_ar a = some t0) (hty : (lh_tys cT)[t0]? = some (cT t0, .object C)) (htc : lh_tc a 0 = t + 2) {x : Int32} (hin : ¬ (x < 0 ∨ gvL S a i ≤ x.toNatClampNeg)) (hdg : decode cc pc = .ok (.aaload, 1))
    (kk : W p l e R s m args below meth c H locs cells slots Q (F0 m (pc + 1) ls (lh_r ad t (gvR S a i x.toNatClampNeg) :: rest))) : W p l e R s m args below meth c H locs cells slots Q (F0 m pc ls (.int x :: lh_r ad a o :: rest)) := by
  subst ho
  obtain ⟨ws, hP, hD, h1, h2, hok⟩ := hW
  obtain ⟨q, hq⟩ := h1 a i hi
  rw [lh_cell, har] at hq
  have hq : ws[q]? = some (ad a i, .inl (cT t0, gvL S a i, .inr (.inr (.inr (.inr (fun j => (gvR S a i j).map (ad t))))))) := by rw [hq]; simp only [lh_con, htc]
  exact va_aldq hexec hb hK hP q t0 hq hty hin hdg kk
theorem lh_alen (hexec : p.tables.exec = Jvm.exec) (hb : c.code = cc) (hK : lh_K D cT s) (hW : lh_W D cT S ad A H) {a i t0 : Nat} {ty : FieldType} {o : Option Nat} (ho : o = some i) (hi : i < gvN S a) (har : lh_ar a = some t0) (hty : (lh_tys cT)[t0]? = some (cT t0, ty)) (hdg : decode cc pc = .ok (.arraylength, 1))
    (kk : W p l e R s m args below meth c H locs cells slots Q (F0 m (pc + 1) ls (.int (nI (gvL S a i)) :: rest))) : W p l e R s m args below meth c H locs cells slots Q (F0 m pc ls (lh_r ad a o :: rest)) := by
  subst ho
  obtain ⟨ws, hP, hD, h1, h2, hok⟩ := hW
  obtain ⟨q, hq⟩ := h1 a i hi
  rw [lh_cell, har] at hq
  exact va_alen hexec hb hK hP q t0 hq hty rfl hdg kk
theorem lh_ast_i (hexec : p.tables.exec = Jvm.exec) (hb : c.code = cc) (hK : lh_K D cT s) (hW : lh_W D cT S ad A H) (hS : va_S A H0 H locs) {a i : Nat} {o : Option Nat} (ho : o = some i) (hi : i < gvN S a) (har : lh_ar a = some 0) (htc : ∀ k, lh_tc a k = 0) {x v : Int32} (hin : ¬ (x < 0 ∨ gvL S a i ≤ x.toNatClampNeg)) (hdg : decode cc pc = .ok (.iastore, 1))
    (kk : ∀ (H1 : Heap) (locs1 : List Loc), lh_W D cT (pvI S a i x.toNatClampNeg v) ad A H1 → va_S A H0 H1 locs1 → W p l e R s m args below meth c H1 locs1 cells slots Q (F0 m (pc + 1) ls rest)) : W p l e R s m args below meth c H locs cells slots Q (F0 m pc ls (.int v :: .int x :: lh_r ad a o :: rest)) := by
  subst ho
  obtain ⟨ws, hP, hD, h1, h2, hok⟩ := hW
  obtain ⟨q, hq0⟩ := h1 a i hi
  obtain ⟨c1, c2, c3, c4, c5, c6⟩ := lh_chI (ad := ad) (i := i) (v := v) (htc x.toNatClampNeg) hok
  have hq := hq0
  rw [lh_cell, har] at hq
  have hq : ws[q]? = some (ad a i, .inl (cT 0, gvL S a i, .inl (gvI S a i))) := by rw [hq]; simp only [lh_con, htc]
  have ef : gvI (pvI S a i x.toNatClampNeg v) a i = upd (gvI S a i) x.toNatClampNeg v := by
    funext j
    by_cases hj : j = x.toNatClampNeg
    · subst hj; simp [upd, gvI, pvI, lh_u3]
    · simp [upd, gvI, pvI, lh_u3, hj]
  have he : lh_cell cT (pvI S a i x.toNatClampNeg v) ad a i = .inl (cT 0, gvL S a i, .inl (upd (gvI S a i) x.toNatClampNeg v)) := by
    simp only [lh_cell, har, lh_con, htc, ef]
    rfl
  exact va_iast hexec hb hK hP hD hS q 0 hq rfl hin hdg (fun H1 locs1 hP1 hD1 hS1 => kk H1 locs1 (lh_W_set hq0 hi hD h1 h2 hP1 hD1 c1 he (c4 cT) c5) hS1)
theorem lh_ast_z (hexec : p.tables.exec = Jvm.exec) (hb : c.code = cc) (hK : lh_K D cT s) (hW : lh_W D cT S ad A H) (hS : va_S A H0 H locs) {a i : Nat} {o : Option Nat} (ho : o = some i) (hi : i < gvN S a) (har : lh_ar a = some 1) (htc : ∀ k, lh_tc a k = 0) {x v : Int32} (hin : ¬ (x < 0 ∨ gvL S a i ≤ x.toNatClampNeg)) (hdg : decode cc pc = .ok (.bastore, 1))
    (kk : ∀ (H1 : Heap) (locs1 : List Loc), lh_W D cT (pvI S a i x.toNatClampNeg (vp_nar .boolean v)) ad A H1 → va_S A H0 H1 locs1 → W p l e R s m args below meth c H1 locs1 cells slots Q (F0 m (pc + 1) ls rest)) : W p l e R s m args below meth c H locs cells slots Q (F0 m pc ls (.int v :: .int x :: lh_r ad a o :: rest)) := by
  subst ho
  obtain ⟨ws, hP, hD, h1, h2, hok⟩ := hW
  obtain ⟨q, hq0⟩ := h1 a i hi
  obtain ⟨c1, c2, c3, c4, c5, c6⟩ := lh_chI (ad := ad) (i := i) (v := vp_nar .boolean v) (htc x.toNatClampNeg) hok
  have hq := hq0
  rw [lh_cell, har] at hq
  have hq : ws[q]? = some (ad a i, .inl (cT 1, gvL S a i, .inl (gvI S a i))) := by rw [hq]; simp only [lh_con, htc]
  have ef : gvI (pvI S a i x.toNatClampNeg (vp_nar .boolean v)) a i = upd (gvI S a i) x.toNatClampNeg (vp_nar .boolean v) := by
    funext j
    by_cases hj : j = x.toNatClampNeg
    · subst hj; simp [upd, gvI, pvI, lh_u3]
    · simp [upd, gvI, pvI, lh_u3, hj]
  have he : lh_cell cT (pvI S a i x.toNatClampNeg (vp_nar .boolean v)) ad a i = .inl (cT 1, gvL S a i, .inl (upd (gvI S a i) x.toNatClampNeg (vp_nar .boolean v))) := by
    simp only [lh_cell, har, lh_con, htc, ef]
    rfl
  exact va_zast hexec hb hK hP hD hS q 1 hq rfl hin hdg (fun H1 locs1 hP1 hD1 hS1 => kk H1 locs1 (lh_W_set hq0 hi hD h1 h2 hP1 hD1 c1 he (c4 cT) c5) hS1)
theorem lh_ast_l (hexec : p.tables.exec = Jvm.exec) (hb : c.code = cc) (hK : lh_K D cT s) (hW : lh_W D cT S ad A H) (hS : va_S A H0 H locs) {a i : Nat} {o : Option Nat} (ho : o = some i) (hi : i < gvN S a) (har : lh_ar a = some 2) (htc : ∀ k, lh_tc a k = 1) {x : Int32} {v : Int64} (hin : ¬ (x < 0 ∨ gvL S a i ≤ x.toNatClampNeg)) (hdg : decode cc pc = .ok (.lastore, 1))
    (kk : ∀ (H1 : Heap) (locs1 : List Loc), lh_W D cT (pvJ S a i x.toNatClampNeg v) ad A H1 → va_S A H0 H1 locs1 → W p l e R s m args below meth c H1 locs1 cells slots Q (F0 m (pc + 1) ls rest)) : W p l e R s m args below meth c H locs cells slots Q (F0 m pc ls (.long v :: .int x :: lh_r ad a o :: rest)) := by
  subst ho
  obtain ⟨ws, hP, hD, h1, h2, hok⟩ := hW
  obtain ⟨q, hq0⟩ := h1 a i hi
  obtain ⟨c1, c2, c3, c4, c5, c6⟩ := lh_chJ (ad := ad) (i := i) (v := v) (htc x.toNatClampNeg) hok
  have hq := hq0
  rw [lh_cell, har] at hq
  have hq : ws[q]? = some (ad a i, .inl (cT 2, gvL S a i, .inr (.inl (gvJ S a i)))) := by rw [hq]; simp only [lh_con, htc]
  have ef : gvJ (pvJ S a i x.toNatClampNeg v) a i = vp_updL (gvJ S a i) x.toNatClampNeg v := by
    funext j
    by_cases hj : j = x.toNatClampNeg
    · subst hj; simp [vp_updL, gvJ, pvJ, lh_u3]
    · simp [vp_updL, gvJ, pvJ, lh_u3, hj]
  have he : lh_cell cT (pvJ S a i x.toNatClampNeg v) ad a i = .inl (cT 2, gvL S a i, .inr (.inl (vp_updL (gvJ S a i) x.toNatClampNeg v))) := by
    simp only [lh_cell, har, lh_con, htc, ef]
    rfl
  exact va_last hexec hb hK hP hD hS q 2 hq rfl hin hdg (fun H1 locs1 hP1 hD1 hS1 => kk H1 locs1 (lh_W_set hq0 hi hD h1 h2 hP1 hD1 c1 he (c4 cT) c5) hS1)
theorem lh_ast_r (hexec : p.tables.exec = Jvm.exec) (hb : c.code = cc) (hK : lh_K D cT s) (hW : lh_W D cT S ad A H) (hS : va_S A H0 H locs) {a i t0 t N : Nat} {C : String} {T : u_T} {o o2 : Option Nat} (ho : o = some i) (hi : i < gvN S a) (har : lh_ar a = some t0) (hty : (lh_tys cT)[t0]? = some (cT t0, .object C)) (htc : ∀ k, lh_tc a k = t + 2) (hc : vwCl[t]? = some (C, T, N)) (hat : lh_ar t = none) (ho2 : ∀ j, o2 = some j → j < gvN S t) {x : Int32} (hin : ¬ (x < 0 ∨ gvL S a i ≤ x.toNatClampNeg)) (hdg : decode cc pc = .ok (.aastore, 1))
    (kk : ∀ (H1 : Heap) (locs1 : List Loc), lh_W D cT (pvR S a i x.toNatClampNeg o2) ad A H1 → va_S A H0 H1 locs1 → W p l e R s m args below meth c H1 locs1 cells slots Q (F0 m (pc + 1) ls rest)) : W p l e R s m args below meth c H locs cells slots Q (F0 m pc ls (lh_r ad t o2 :: .int x :: lh_r ad a o :: rest)) := by
  subst ho
  obtain ⟨ws, hP, hD, h1, h2, hok⟩ := hW
  obtain ⟨q, hq0⟩ := h1 a i hi
  obtain ⟨c1, c2, c3, c4, c5, c6⟩ := lh_chR (ad := ad) (i := i) (o := o2) (htc x.toNatClampNeg) ho2 hok
  have hq := hq0
  rw [lh_cell, har] at hq
  have hq : ws[q]? = some (ad a i, .inl (cT t0, gvL S a i, .inr (.inr (.inr (.inr (fun j => (gvR S a i j).map (ad t))))))) := by rw [hq]; simp only [lh_con, htc]
  have ef : (fun j => (gvR (pvR S a i x.toNatClampNeg o2) a i j).map (ad t)) = va_up (fun j => (gvR S a i j).map (ad t)) x.toNatClampNeg (o2.map (ad t)) := by
    funext j
    by_cases hj : j = x.toNatClampNeg
    · subst hj; simp [va_up, gvR, pvR, lh_u3]
    · simp [va_up, gvR, pvR, lh_u3, hj]
  have he : lh_cell cT (pvR S a i x.toNatClampNeg o2) ad a i = .inl (cT t0, gvL S a i, .inr (.inr (.inr (.inr (va_up (fun j => (gvR S a i j).map (ad t)) x.toNatClampNeg (o2.map (ad t))))))) := by
    rw [lh_cell, har]
    show (Sum.inl (cT t0, gvL S a i, lh_con (pvR S a i x.toNatClampNeg o2) ad a i) : va_E) = _
    rw [lh_con, htc]
    show (Sum.inl (cT t0, gvL S a i, .inr (.inr (.inr (.inr (fun j => (gvR (pvR S a i x.toNatClampNeg o2) a i j).map (ad t)))))) : va_E) = _
    rw [ef]
  cases o2 with
  | none => exact va_astqN hexec hb hK hP hD hS q t0 hq hty hin hdg (fun H1 locs1 hP1 hD1 hS1 => kk H1 locs1 (lh_W_set hq0 hi hD h1 h2 hP1 hD1 c1 he (c4 cT) c5) hS1)
  | some j =>
    obtain ⟨qk, hqk⟩ := h1 t j (ho2 j rfl)
    rw [lh_cell, hat] at hqk
    exact va_astq hexec hb hK hP hD hS q t0 qk t hq hty hqk hc hin hdg (fun H1 locs1 hP1 hD1 hS1 => kk H1 locs1 (lh_W_set hq0 hi hD h1 h2 hP1 hD1 c1 he (c4 cT) c5) hS1)
end LH
end
section
/-- the default of a place -/
def lh_dv (a j : Nat) : Value := match lh_tc a j with
  | 0 => .int 0
  | 1 => .long 0
  | _ => .null
theorem lh_new_cell {cT : Nat → ClassId} {S : lh_S} {ad : Nat → Nat → Nat} {a n q b j : Nat} (hok : lh_ok S) (hj : j < gvN S b) : lh_cell cT (pvN S a n) (lh_u2 ad a (gvN S a) q) b j = lh_cell cT S ad b j := by
  have hne : ¬ (b = a ∧ j = gvN S a) := fun z => by obtain ⟨rfl, rfl⟩ := z; omega
  have eI : ∀ k, gvI (pvN S a n) b j k = gvI S b j k := fun k => if_neg hne
  have eJ : ∀ k, gvJ (pvN S a n) b j k = gvJ S b j k := fun k => if_neg hne
  have eR : ∀ k, gvR (pvN S a n) b j k = gvR S b j k := fun k => if_neg hne
  have eL : gvL (pvN S a n) b j = gvL S b j := if_neg hne
  rw [lh_cell_c (S := S) eL eI eJ eR]
  have em : ∀ k t, lh_tc b k = t + 2 → (gvR S b j k).map (lh_u2 ad a (gvN S a) q t) = (gvR S b j k).map (ad t) := by
    intro k t ht
    cases ho : gvR S b j k with
    | none => rfl
    | some x =>
      have hx := hok b j k t x hj ht ho
      have : ¬ (t = a ∧ x = gvN S a) := fun z => by obtain ⟨rfl, rfl⟩ := z; omega
      show some (lh_u2 ad a (gvN S a) q t x) = some (ad t x)
      rw [lh_u2, if_neg this]
  have e1 : lh_val S (lh_u2 ad a (gvN S a) q) b j = lh_val S ad b j := by
    funext k
    unfold lh_val
    split
    · rfl
    · rfl
    · next t ht =>
      unfold lh_r
      rw [em k t ht]
  unfold lh_cell
  split
  · rw [e1]
  · next t ht =>
    have e2 : lh_con S (lh_u2 ad a (gvN S a) q) b j = lh_con S ad b j := by
      unfold lh_con
      split
      · rfl
      · rfl
      · next t2 ht2 =>
        have : (fun k => (gvR S b j k).map (lh_u2 ad a (gvN S a) q t2)) = fun k => (gvR S b j k).map (ad t2) := by
          funext k
          cases ho : gvR S b j k with
          | none => rfl
          | some x =>
            have htk : lh_tc b k = t2 + 2 := by
              have : lh_tc b k = lh_tc b 0 := by
                unfold lh_ar at ht
                unfold lh_tc
                split at ht <;> simp_all
              omega
            have := em k t2 htk
            rw [ho] at this
            exact this
        rw [this]
    rw [e2]
theorem lh_pvN_n {S : lh_S} {a n b : Nat} : gvN (pvN S a n) b = if b = a then gvN S a + 1 else gvN S b := by
  show va_up S.1 a (S.1 a + 1) b = _
  unfold va_up
  rfl
theorem lh_W_new {D : va_G} {cT : Nat → ClassId} {S : lh_S} {ad : Nat → Nat → Nat} {A : Nat → Prop} {H1 : Heap} {ws : va_W} {a n q : Nat} {e : va_E}
    (h1 : ∀ b j : Nat, j < gvN S b → ∃ q : Nat, ws[q]? = some (ad b j, lh_cell cT S ad b j)) (h2 : ∀ b j b' j' : Nat, j < gvN S b → j' < gvN S b' → ad b j = ad b' j' → b = b' ∧ j = j') (hok : lh_ok S)
    (hP1 : va_P D vwCl (ws ++ [(q, e)]) H1) (hD1 : va_D A (ws ++ [(q, e)])) (he : lh_cell cT (pvN S a n) (lh_u2 ad a (gvN S a) q) a (gvN S a) = e) : lh_W D cT (pvN S a n) (lh_u2 ad a (gvN S a) q) A H1 := by
  have old : ∀ b j, j < gvN (pvN S a n) b → (b = a ∧ j = gvN S a) ∨ (j < gvN S b ∧ ¬ (b = a ∧ j = gvN S a)) := by
    intro b j hj
    rw [lh_pvN_n] at hj
    by_cases hb : b = a
    · subst hb
      rw [if_pos rfl] at hj
      by_cases hz : j = gvN S b
      · exact Or.inl ⟨rfl, hz⟩
      · exact Or.inr ⟨by omega, fun z => hz z.2⟩
    · rw [if_neg hb] at hj
      exact Or.inr ⟨hj, fun z => hb z.1⟩
  have adn : lh_u2 ad a (gvN S a) q a (gvN S a) = q := by simp [lh_u2]
  have ado : ∀ b j, ¬ (b = a ∧ j = gvN S a) → lh_u2 ad a (gvN S a) q b j = ad b j := fun b j h => by simp only [lh_u2, if_neg h]
  have pos : ∀ b j, j < gvN S b → ∃ x : Nat, x < ws.length ∧ (ws ++ [(q, e)])[x]? = some (ad b j, lh_cell cT S ad b j) := by
    intro b j hj
    obtain ⟨x, hx⟩ := h1 b j hj
    have hl := (List.getElem?_eq_some_iff.mp hx).1
    exact ⟨x, hl, by rw [List.getElem?_append_left hl]; exact hx⟩
  have last : (ws ++ [(q, e)])[ws.length]? = some (q, e) := by simp
  have fresh : ∀ b j, j < gvN S b → ad b j ≠ q := by
    intro b j hj z
    obtain ⟨x, hl, hx⟩ := pos b j hj
    have := hD1.1 x ws.length _ _ hx last z
    omega
  refine ⟨_, hP1, hD1, fun b j hj => ?_, fun b j b' j' hj hj' hz => ?_, fun b j k t x hj ht hx => ?_⟩
  · rcases old b j hj with ⟨rfl, rfl⟩ | ⟨h3, h4⟩
    · exact ⟨ws.length, by rw [last, adn, he]⟩
    · obtain ⟨x, hl, hx⟩ := pos b j h3
      exact ⟨x, by rw [hx, ado b j h4, lh_new_cell hok h3]⟩
  · rcases old b j hj with ⟨rfl, rfl⟩ | ⟨h3, h4⟩ <;> rcases old b' j' hj' with ⟨rfl, rfl⟩ | ⟨h5, h6⟩
    · exact ⟨rfl, rfl⟩
    · rw [adn, ado _ _ h6] at hz
      exact absurd hz.symm (fresh b' j' h5)
    · rw [adn, ado _ _ h4] at hz
      exact absurd hz (fresh b j h3)
    · rw [ado _ _ h4, ado _ _ h6] at hz
      exact h2 b j b' j' h3 h5 hz
  · have hle : ∀ b, gvN S b ≤ gvN (pvN S a n) b := fun b => by rw [lh_pvN_n]; split <;> (try subst_vars) <;> omega
    rcases old b j hj with ⟨rfl, rfl⟩ | ⟨h3, h4⟩
    · have : gvR (pvN S b n) b (gvN S b) k = none := if_pos ⟨rfl, rfl⟩
      rw [this] at hx
      cases hx
    · have : gvR (pvN S a n) b j k = gvR S b j k := if_neg h4
      rw [this] at hx
      exact Nat.lt_of_lt_of_le (hok b j k t x h3 ht hx) (hle t)
theorem lh_E_new {S : lh_S} {ad : Nat → Nat → Nat} {a q : Nat} : lh_E S ad (lh_u2 ad a (gvN S a) q) := by
  intro b j hj
  have : ¬ (b = a ∧ j = gvN S a) := fun z => by obtain ⟨rfl, rfl⟩ := z; omega
  simp only [lh_u2, if_neg this]
section LH2
variable {p : Program} {l : Launch} {e : Env} {R : Room} {s : State} {m : MethodId} {args : Array Value} {below : List Frame} {meth : Method} {c : Code} {H : Heap} {locs : List Loc} {cells slots : Nat} {Q : State → Prop}
variable {cc : ByteArray} {pc : Nat} {ls : Array Slot} {rest : List Value} {D : va_G} {cT : Nat → ClassId} {S : lh_S} {ad : Nat → Nat → Nat} {A : Nat → Prop} {H0 : Heap}
theorem lh_new {c0 : Code} (hexec : p.tables.exec = Jvm.exec) (hb : c0.code = cc) {own C : String} {T : u_T} {N a index : Nat} {Ts : List Cond} (hts : ∀ w ∈ Ts, w.before args s = true) (hin : ∀ w ∈ u_ws C T N, w ∈ Ts) (ty : Nat → FieldType) (hty : ∀ k, k < N → parseFieldDescriptor (T k).2.2.1 = some (ty k)) (hown : s.vm.findClass own = some m.cls) (hcl : (Cond.classLink own index C).before args s = true) (hinst : (Cond.instantiable C N).before args s = true) (hini : (Cond.initialized C).before args s = true)
    (hK : lh_K D cT s) (hW : lh_W D cT S ad A H) (hS : va_S A H0 H locs) (hA : ∀ q, H0.size ≤ q → A q) (hc : vwCl[a]? = some (C, T, N)) (hn : lh_nf a = N) (har : lh_ar a = none) (hdv : ∀ j, j < N → defaultValue (ty j) = lh_dv a j) (hcells : cells + 1 ≤ R.cells) (hslots : slots + N ≤ R.slots) (hdg : decode cc pc = .ok (.new index, 3))
    (kk : ∀ (ad' : Nat → Nat → Nat) (H1 : Heap), lh_E S ad ad' → lh_W D cT (pvN S a 0) ad' A H1 → va_S A H0 H1 locs → W p l e R s m args below meth c0 H1 locs (cells + 1) (slots + N) Q (F0 m (pc + 3) ls (lh_r ad' a (some (gvN S a)) :: rest))) : W p l e R s m args below meth c0 H locs cells slots Q (F0 m pc ls rest) := by
  obtain ⟨ws, hP, hD, h1, h2, hok⟩ := hW
  refine va_new (fs := (List.range N).map (lh_dv a)) hexec hb hts hin ty hty hown hcl hinst hini hK hP hD hS hA hc (fun j hj => by rw [hdv j hj]; simp [vp_V, hj]) hcells hslots hdg (fun q H1 hP1 hD1 hS1 => ?_)
  have hcell : lh_cell cT (pvN S a 0) (lh_u2 ad a (gvN S a) q) a (gvN S a) = .inr (a, (List.range N).map (lh_dv a)) := by
    have e1 : lh_val (pvN S a 0) (lh_u2 ad a (gvN S a) q) a (gvN S a) = lh_dv a := by
      funext k
      have eI : gvI (pvN S a 0) a (gvN S a) k = 0 := if_pos ⟨rfl, rfl⟩
      have eJ : gvJ (pvN S a 0) a (gvN S a) k = 0 := if_pos ⟨rfl, rfl⟩
      have eR : gvR (pvN S a 0) a (gvN S a) k = none := if_pos ⟨rfl, rfl⟩
      unfold lh_val lh_dv
      rw [eI, eJ, eR]
      generalize lh_tc a k = tt
      match tt with
      | 0 => rfl
      | 1 => rfl
      | _ + 2 => rfl
    rw [lh_cell, har, hn, e1]
  have e : lh_r (lh_u2 ad a (gvN S a) q) a (some (gvN S a)) = .ref q := by simp [lh_r, va_rf, lh_u2]
  have := kk (lh_u2 ad a (gvN S a) q) H1 lh_E_new (lh_W_new h1 h2 hok hP1 hD1 hcell) hS1
  rw [e] at this
  exact this
theorem lh_newa (hexec : p.tables.exec = Jvm.exec) (hb : c.code = cc) {atype : ArrayType} (harr : (Cond.arrayClass (newarray.typeOf atype)).before args s = true) {ty : FieldType} (hty : newarray.typeOf atype = ty) (hK : lh_K D cT s) (hW : lh_W D cT S ad A H) (hS : va_S A H0 H locs) (hA : ∀ q, H0.size ≤ q → A q) {a t0 : Nat} (har : lh_ar a = some t0) (ht : (lh_tys cT)[t0]? = some (cT t0, ty)) (hra : ∀ U cA, va_RA U cA ty → U.vm.findClass ("[" ++ ty.toString) = some cA) (htc : lh_tc a 0 = 0 ∧ defaultValue ty = .int 0 ∨ lh_tc a 0 = 1 ∧ defaultValue ty = .long 0)
    {n : Int32} {N' : Nat} (hn : ¬ n < 0) (hN : n.toNatClampNeg = N') (hbytes : N' * componentBytes ty ≤ 536870912) (hcells : cells + 1 ≤ R.cells) (hslots : slots + N' ≤ R.slots) (hdg : decode cc pc = .ok (.newarray atype, 2))
    (kk : ∀ (ad' : Nat → Nat → Nat) (H1 : Heap), lh_E S ad ad' → lh_W D cT (pvN S a N') ad' A H1 → va_S A H0 H1 locs → W p l e R s m args below meth c H1 locs (cells + 1) (slots + N') Q (F0 m (pc + 2) ls (lh_r ad' a (some (gvN S a)) :: rest))) : W p l e R s m args below meth c H locs cells slots Q (F0 m pc ls (.int n :: rest)) := by
  obtain ⟨ws, hP, hD, h1, h2, hok⟩ := hW
  have fin : ∀ (q : Nat) (cA : ClassId) (H1 : Heap) (con : (Nat → Int32) ⊕ (Nat → Int64) ⊕ (Nat → UInt32) ⊕ (Nat → UInt64) ⊕ (Nat → Option Nat)), lh_con (pvN S a N') (lh_u2 ad a (gvN S a) q) a (gvN S a) = con → va_K D vwCl (lh_tys cT ++ [(cA, ty)]) s → va_P D vwCl (ws ++ [(q, .inl (cA, N', con))]) H1 → va_D A (ws ++ [(q, .inl (cA, N', con))]) → va_S A H0 H1 locs → W p l e R s m args below meth c H1 locs (cells + 1) (slots + N') Q (F0 m (pc + 2) ls (.ref q :: rest)) := by
    intro q cA H1 con hcon hK1 hP1 hD1 hS1
    have hcA : cA = cT t0 := by
      have g1 := hra s cA (hK1.2 (lh_tys cT).length (cA, ty) (by simp)).2
      have g2 := hra s (cT t0) (hK.2 t0 _ ht).2
      exact Option.some.inj (g1.symm.trans g2)
    subst hcA
    have eL : gvL (pvN S a N') a (gvN S a) = N' := if_pos ⟨rfl, rfl⟩
    have hcell : lh_cell cT (pvN S a N') (lh_u2 ad a (gvN S a) q) a (gvN S a) = .inl (cT t0, N', con) := by rw [lh_cell, har, ← hcon]; show (Sum.inl (cT t0, gvL (pvN S a N') a (gvN S a), _) : va_E) = _; rw [eL]
    have e : lh_r (lh_u2 ad a (gvN S a) q) a (some (gvN S a)) = .ref q := by simp [lh_r, va_rf, lh_u2]
    have := kk (lh_u2 ad a (gvN S a) q) H1 lh_E_new (lh_W_new h1 h2 hok hP1 hD1 hcell) hS1
    rw [e] at this
    exact this
  rcases htc with ⟨ht0, hdf⟩ | ⟨ht0, hdf⟩
  · refine va_newa (a0 := (N', .inl (fun _ => 0))) hexec hb harr hty hK hP hD hS hA (fun cA => by rw [vp_cell_i, hdf]) hn hN hbytes hcells hslots hdg (fun q cA H1 hK1 hP1 hD1 hS1 => fin q cA H1 _ ?_ hK1 hP1 hD1 hS1)
    rw [lh_con, ht0]
    show (Sum.inl (gvI (pvN S a N') a (gvN S a)) : (Nat → Int32) ⊕ (Nat → Int64) ⊕ (Nat → UInt32) ⊕ (Nat → UInt64) ⊕ (Nat → Option Nat)) = _
    congr 1
    funext k
    exact if_pos ⟨rfl, rfl⟩
  · refine va_newa (a0 := (N', .inr (.inl (fun _ => 0)))) hexec hb harr hty hK hP hD hS hA (fun cA => by rw [vp_cell_l, hdf]) hn hN hbytes hcells hslots hdg (fun q cA H1 hK1 hP1 hD1 hS1 => fin q cA H1 _ ?_ hK1 hP1 hD1 hS1)
    rw [lh_con, ht0]
    show (Sum.inr (Sum.inl (gvJ (pvN S a N') a (gvN S a))) : (Nat → Int32) ⊕ (Nat → Int64) ⊕ (Nat → UInt32) ⊕ (Nat → UInt64) ⊕ (Nat → Option Nat)) = _
    congr 2
    funext k
    exact if_pos ⟨rfl, rfl⟩
theorem lh_newq (hexec : p.tables.exec = Jvm.exec) (hb : c.code = cc) {own C : String} {index : Nat} (hown : s.vm.findClass own = some m.cls) (hclink : (Cond.classLink own index C).before args s = true) (hover : va_AO C s) (hK : lh_K D cT s) (hW : lh_W D cT S ad A H) (hS : va_S A H0 H locs) (hA : ∀ q, H0.size ≤ q → A q) {a t0 t : Nat} (har : lh_ar a = some t0) (ht : (lh_tys cT)[t0]? = some (cT t0, .object C)) (htc : lh_tc a 0 = t + 2)
    {n : Int32} {N' : Nat} (hn : ¬ n < 0) (hN : n.toNatClampNeg = N') (hbytes : N' * 4 ≤ 536870912) (hcells : cells + 1 ≤ R.cells) (hslots : slots + N' ≤ R.slots) (hdg : decode cc pc = .ok (.anewarray index, 3))
    (kk : ∀ (ad' : Nat → Nat → Nat) (H1 : Heap), lh_E S ad ad' → lh_W D cT (pvN S a N') ad' A H1 → va_S A H0 H1 locs → W p l e R s m args below meth c H1 locs (cells + 1) (slots + N') Q (F0 m (pc + 3) ls (lh_r ad' a (some (gvN S a)) :: rest))) : W p l e R s m args below meth c H locs cells slots Q (F0 m pc ls (.int n :: rest)) := by
  obtain ⟨ws, hP, hD, h1, h2, hok⟩ := hW
  refine va_newq hexec hb hown hclink hover hK hP hD hS hA hn hN hbytes hcells hslots hdg (fun q cA H1 hK1 hP1 hD1 hS1 => ?_)
  have hcA : cA = cT t0 := by
    obtain ⟨kA, comp, g1, g2, g3, g4⟩ := (hK1.2 (lh_tys cT).length (cA, .object C) (by simp)).2
    obtain ⟨kA', comp', f1, f2, f3, f4⟩ := (hK.2 t0 _ ht).2
    exact Option.some.inj (g4.symm.trans f4)
  subst hcA
  have eL : gvL (pvN S a N') a (gvN S a) = N' := if_pos ⟨rfl, rfl⟩
  have hcell : lh_cell cT (pvN S a N') (lh_u2 ad a (gvN S a) q) a (gvN S a) = .inl (cT t0, N', .inr (.inr (.inr (.inr (fun _ => none))))) := by
    rw [lh_cell, har]
    show (Sum.inl (cT t0, gvL (pvN S a N') a (gvN S a), lh_con (pvN S a N') (lh_u2 ad a (gvN S a) q) a (gvN S a)) : va_E) = _
    rw [eL, lh_con, htc]
    show (Sum.inl (cT t0, N', .inr (.inr (.inr (.inr (fun j => (gvR (pvN S a N') a (gvN S a) j).map (lh_u2 ad a (gvN S a) q t)))))) : va_E) = _
    have : (fun j => (gvR (pvN S a N') a (gvN S a) j).map (lh_u2 ad a (gvN S a) q t)) = fun _ => none := by
      funext j
      have eR : gvR (pvN S a N') a (gvN S a) j = none := if_pos ⟨rfl, rfl⟩
      rw [eR]
      rfl
    rw [this]
  have e : lh_r (lh_u2 ad a (gvN S a) q) a (some (gvN S a)) = .ref q := by simp [lh_r, va_rf, lh_u2]
  have := kk (lh_u2 ad a (gvN S a) q) H1 lh_E_new (lh_W_new h1 h2 hok hP1 hD1 hcell) hS1
  rw [e] at this
  exact this
-- references in locals, and branches on them
theorem lh_aload_n (hexec : p.tables.exec = Jvm.exec) (hb : c.code = cc) {k : Fin 4} {i t : Nat} {o : Option Nat} (hdg : decode cc pc = .ok (.aload_n k, 1)) (hi : (k : Nat) = i) (hl : ls[i]? = some (.val (lh_r ad t o)))
    (kk : W p l e R s m args below meth c H locs cells slots Q (F0 m (pc + 1) ls (lh_r ad t o :: rest))) : W p l e R s m args below meth c H locs cells slots Q (F0 m pc ls rest) := by
  cases o with
  | none => exact lv_aload_nN hexec hb hdg hi hl kk
  | some x => exact lv_aload_n hexec hb hdg hi hl kk
theorem lh_aload (hexec : p.tables.exec = Jvm.exec) (hb : c.code = cc) {i t : Nat} {o : Option Nat} (hdg : decode cc pc = .ok (.aload i, 2)) (hl : ls[i]? = some (.val (lh_r ad t o)))
    (kk : W p l e R s m args below meth c H locs cells slots Q (F0 m (pc + 2) ls (lh_r ad t o :: rest))) : W p l e R s m args below meth c H locs cells slots Q (F0 m pc ls rest) := by
  cases o with
  | none => exact lv_aloadN hexec hb hdg hl kk
  | some x => exact lv_aload hexec hb hdg hl kk
theorem lh_astore_n (hexec : p.tables.exec = Jvm.exec) (hb : c.code = cc) {k : Fin 4} {i nL t : Nat} {o : Option Nat} {lv lv' : List (Nat × Value)} (hdg : decode cc pc = .ok (.astore_n k, 1)) (hi : (k : Nat) = i) (h : lv_has ls nL lv) (hn : i < nL) (hl : (i, lh_r ad t o) :: lv.filter (fun q => !(q.1 == i) && !(q.1 + 1 == i && q.2.category == 2)) = lv')
    (kk : ∀ ls' : Array Slot, lv_has ls' nL lv' → W p l e R s m args below meth c H locs cells slots Q (F0 m (pc + 1) ls' rest)) : W p l e R s m args below meth c H locs cells slots Q (F0 m pc ls (lh_r ad t o :: rest)) := by
  cases o with
  | none => exact lv_astore_nN hexec hb hdg hi h hn hl kk
  | some x => exact lv_astore_n hexec hb hdg hi h hn hl kk
theorem lh_astore (hexec : p.tables.exec = Jvm.exec) (hb : c.code = cc) {i nL t : Nat} {o : Option Nat} {lv lv' : List (Nat × Value)} (hdg : decode cc pc = .ok (.astore i, 2)) (h : lv_has ls nL lv) (hn : i < nL) (hl : (i, lh_r ad t o) :: lv.filter (fun q => !(q.1 == i) && !(q.1 + 1 == i && q.2.category == 2)) = lv')
    (kk : ∀ ls' : Array Slot, lv_has ls' nL lv' → W p l e R s m args below meth c H locs cells slots Q (F0 m (pc + 2) ls' rest)) : W p l e R s m args below meth c H locs cells slots Q (F0 m pc ls (lh_r ad t o :: rest)) := by
  cases o with
  | none => exact lv_astoreN hexec hb hdg h hn hl kk
  | some x => exact lv_astore hexec hb hdg h hn hl kk
theorem lh_null (hexec : p.tables.exec = Jvm.exec) (hb : c.code = cc) (ad : Nat → Nat → Nat) (t : Nat) (hdg : decode cc pc = .ok (.aconst_null, 1)) (k : W p l e R s m args below meth c H locs cells slots Q (F0 m (pc + 1) ls (lh_r ad t none :: rest))) : W p l e R s m args below meth c H locs cells slots Q (F0 m pc ls rest) := lv_null hexec hb hdg k
theorem lh_ifnull (hexec : p.tables.exec = Jvm.exec) (hb : c.code = cc) {off : Int} {tgt t : Nat} {o : Option Nat} (hdg : decode cc pc = .ok (.ifnull off, 3)) (ht : (pc : Int) + off = (tgt : Int)) (kt : o = none → W p l e R s m args below meth c H locs cells slots Q (F0 m tgt ls rest)) (kf : ¬ o = none → W p l e R s m args below meth c H locs cells slots Q (F0 m (pc + 3) ls rest)) : W p l e R s m args below meth c H locs cells slots Q (F0 m pc ls (lh_r ad t o :: rest)) := by
  cases o with
  | none => exact lv_ifnullN hexec hb hdg ht (kt rfl)
  | some x => exact lv_ifnull hexec hb hdg (kf (fun h => by cases h))
theorem lh_ifnonnull (hexec : p.tables.exec = Jvm.exec) (hb : c.code = cc) {off : Int} {tgt t : Nat} {o : Option Nat} (hdg : decode cc pc = .ok (.ifnonnull off, 3)) (ht : (pc : Int) + off = (tgt : Int)) (kt : ¬ o = none → W p l e R s m args below meth c H locs cells slots Q (F0 m tgt ls rest)) (kf : o = none → W p l e R s m args below meth c H locs cells slots Q (F0 m (pc + 3) ls rest)) : W p l e R s m args below meth c H locs cells slots Q (F0 m pc ls (lh_r ad t o :: rest)) := by
  cases o with
  | none => exact lv_ifnonnullN hexec hb hdg (kf rfl)
  | some x => exact lv_ifnonnull hexec hb hdg ht (kt (fun h => by cases h))
theorem lh_mapinj {D : va_G} {cT : Nat → ClassId} {S : lh_S} {ad : Nat → Nat → Nat} {A : Nat → Prop} {H : Heap} (hW : lh_W D cT S ad A H) {t : Nat} {o1 o2 : Option Nat} (h1 : ∀ j, o1 = some j → j < gvN S t) (h2 : ∀ j, o2 = some j → j < gvN S t) : o1.map (ad t) = o2.map (ad t) ↔ o1 = o2 := by
  constructor
  · intro h
    cases o1 with
    | none => cases o2 with
      | none => rfl
      | some y => cases h
    | some x => cases o2 with
      | none => cases h
      | some y =>
        obtain ⟨ws, hP, hD, g1, g2, hok⟩ := hW
        rw [(g2 t x t y (h1 x rfl) (h2 y rfl) (Option.some.inj h)).2]
  · intro h; rw [h]
theorem lh_acmp_eq (hexec : p.tables.exec = Jvm.exec) (hb : c.code = cc) (hW : lh_W D cT S ad A H) {t : Nat} {o1 o2 : Option Nat} (h1 : ∀ j, o1 = some j → j < gvN S t) (h2 : ∀ j, o2 = some j → j < gvN S t) {off : Int} {tgt : Nat} (hdg : decode cc pc = .ok (.if_acmp .eq off, 3)) (ht : (pc : Int) + off = (tgt : Int))
    (kt : o1 = o2 → W p l e R s m args below meth c H locs cells slots Q (F0 m tgt ls rest)) (kf : ¬ o1 = o2 → W p l e R s m args below meth c H locs cells slots Q (F0 m (pc + 3) ls rest)) : W p l e R s m args below meth c H locs cells slots Q (F0 m pc ls (lh_r ad t o2 :: lh_r ad t o1 :: rest)) :=
  lv_acmp_eq hexec hb hdg ht (fun h => kt ((lh_mapinj hW h1 h2).mp h)) (fun h => kf (fun z => h ((lh_mapinj hW h1 h2).mpr z)))
theorem lh_acmp_ne (hexec : p.tables.exec = Jvm.exec) (hb : c.code = cc) (hW : lh_W D cT S ad A H) {t : Nat} {o1 o2 : Option Nat} (h1 : ∀ j, o1 = some j → j < gvN S t) (h2 : ∀ j, o2 = some j → j < gvN S t) {off : Int} {tgt : Nat} (hdg : decode cc pc = .ok (.if_acmp .ne off, 3)) (ht : (pc : Int) + off = (tgt : Int))
    (kt : ¬ o1 = o2 → W p l e R s m args below meth c H locs cells slots Q (F0 m tgt ls rest)) (kf : o1 = o2 → W p l e R s m args below meth c H locs cells slots Q (F0 m (pc + 3) ls rest)) : W p l e R s m args below meth c H locs cells slots Q (F0 m pc ls (lh_r ad t o2 :: lh_r ad t o1 :: rest)) :=
  lv_acmp_ne hexec hb hdg ht (fun h => kt (fun z => h ((lh_mapinj hW h1 h2).mpr z))) (fun h => kf ((lh_mapinj hW h1 h2).mp h))
end LH2
end
section
/-- the words that are no rows of a method's list: private calls within the nest, arrays over a class -/
def lh_N (U : State) : Prop := va_Nw (.methodLinkNest RX9 19 yX3_init "LoaderModels") U ∧ va_Nw (.methodLinkNest RX4 11 yX6_init "LoaderModels") U ∧ va_Nw (.methodLinkNest RX4 81 yX9_failed "LoaderModels") U ∧ va_Nw (.methodLinkNest RX4 85 yX8_init "LoaderModels") U ∧ va_AO RX0 U ∧ va_AO RX1 U ∧ va_AO RX2 U ∧ va_AO RX5 U ∧ va_AO RX7 U ∧ va_AO RX8 U
theorem lh_N.warm {s U : State} (hW : s.WarmedH U.vm) (h : lh_N s) : lh_N U := by
  obtain ⟨h1, h2, h3, h4, a1, a2, a3, a4, a5, a6⟩ := h
  exact ⟨va_Nw.warmM hW h1, va_Nw.warmM hW h2, va_Nw.warmM hW h3, va_Nw.warmM hW h4, a1.moved hW.alike, a2.moved hW.alike, a3.moved hW.alike, a4.moved hW.alike, a5.moved hW.alike, a6.moved hW.alike⟩
theorem lh_N.same {s U : State} (hW : s.vm = U.vm) (h : lh_N s) : lh_N U := by
  obtain ⟨h1, h2, h3, h4, a1, a2, a3, a4, a5, a6⟩ := h
  have ha : s.vm.Alike U.vm := by rw [hW]; exact Vm.Alike.refl _
  exact ⟨va_Nw.same rfl hW h1, va_Nw.same rfl hW h2, va_Nw.same rfl hW h3, va_Nw.same rfl hW h4, a1.moved ha, a2.moved ha, a3.moved ha, a4.moved ha, a5.moved ha, a6.moved ha⟩
def lh_P (D : va_G) (cT : Nat → ClassId) (S : lh_S) (ad : Nat → Nat → Nat) (A : Nat → Prop) (sz : Nat) (av : List Value) : Array Value → State → Prop := va_Pc av (fun U => U.heap.size = sz ∧ lh_W D cT S ad A U.heap ∧ lh_K D cT U ∧ lh_N U)
def lh_Q (D : va_G) (cT : Nat → ClassId) (S' : lh_S) (ad : Nat → Nat → Nat) (A : Nat → Prop) (X : Prop) (v : Option Value) : Array Value → State → Outcome → State → Prop := fun _ st oc t => (oc = .returned v ∧ X ∧ lh_W D cT S' ad A t.heap) ∧ va_F A st t
def lh_QA (D : va_G) (cT : Nat → ClassId) (S S' : lh_S) (ad : Nat → Nat → Nat) (A : Nat → Prop) (X : Prop) (v : (Nat → Nat → Nat) → Option Value) : Array Value → State → Outcome → State → Prop := fun _ st oc t => (∃ ad' : Nat → Nat → Nat, lh_E S ad ad' ∧ oc = .returned (v ad') ∧ X ∧ lh_W D cT S' ad' A t.heap) ∧ va_F A st t
theorem lh_blind {D : va_G} {cT : Nat → ClassId} {S : lh_S} {ad : Nat → Nat → Nat} {A : Nat → Prop} {sz : Nat} {av : List Value} : FrameBlind (lh_P D cT S ad A sz av) := by
  intro a U g mk q
  obtain ⟨q0, q1, qP, qK, qN⟩ := q
  exact ⟨q0, q1, qP, va_K.moved (u := U) (U := U.calling g mk a) (Vm.Alike.refl U.vm) qK, lh_N.same rfl qN⟩
theorem lh_pre {D : va_G} {cT : Nat → ClassId} {S : lh_S} {ad : Nat → Nat → Nat} {A : Nat → Prop} {H : Heap} {s : State} {av : List Value} (hW : lh_W D cT S ad A H) (hK : lh_K D cT s) (hN : lh_N s) : ∀ U : State, U.heap = H → s.WarmedH U.vm → lh_P D cT S ad A H.size av av.toArray U :=
  fun U hU hw => ⟨rfl, by rw [hU], by rw [hU]; exact hW, va_K.moved hw.alike hK, hN.warm hw⟩
section LH3
variable {p : Program} {l : Launch} {e : Env} {R : Room} {s : State} {m : MethodId} {args : Array Value} {below : List Frame} {meth : Method} {c : Code} {H : Heap} {locs : List Loc} {cells slots : Nat} {Q : State → Prop}
variable {cc : ByteArray} {pc : Nat} {ls : Array Slot} {rest st0 : List Value} {D : va_G} {cT : Nat → ClassId} {S S' : lh_S} {ad : Nat → Nat → Nat} {A : Nat → Prop} {H0 : Heap} {mc ms : Nat} {a : Array Value}
theorem lh_call {X : Prop} {v : Option Value} (hr : va_Run p l e R s m args below meth c H locs cells slots mc ms (F0 m pc ls st0) rest (lh_Q D cT S' ad A X v a) A) (hS : va_S A H0 H locs)
    (kk : ∀ (H1 : Heap) (locs1 : List Loc), X → lh_W D cT S' ad A H1 → va_S A H0 H1 locs1 → W p l e R s m args below meth c H1 locs1 (cells + mc) (slots + ms) Q (F0 m (pc + 3) ls (v.toList ++ rest))) : W p l e R s m args below meth c H locs cells slots Q (F0 m pc ls st0) := by
  intro T hT X0
  obtain ⟨v', st₀, t, T', L, h0, X', hL, e1, e2, ⟨⟨hv, hX, hw⟩, hz, hk⟩, st⟩ := hr T hT X0
  cases hv
  rw [h0] at hz hk
  obtain ⟨t2, a1, b1⟩ := kk T'.heap (locs ++ L) hX (by rw [e1]; exact hw)
    ⟨Nat.le_trans hS.1 (by rw [e1]; exact hz), fun q h1 h2 => by rw [e1, hk q (Nat.lt_of_lt_of_le h1 hS.1) h2]; exact hS.2.1 q h1 h2, fun q hq => by
      rcases List.mem_append.mp hq with h | h
      · exact hS.2.2 q h
      · exact hL q h⟩ T' rfl X'
  exact ⟨t2, st t2 a1, b1⟩
theorem lh_callA {X : Prop} {v : (Nat → Nat → Nat) → Option Value} (hr : va_Run p l e R s m args below meth c H locs cells slots mc ms (F0 m pc ls st0) rest (lh_QA D cT S S' ad A X v a) A) (hS : va_S A H0 H locs)
    (kk : ∀ (ad' : Nat → Nat → Nat) (H1 : Heap) (locs1 : List Loc), lh_E S ad ad' → X → lh_W D cT S' ad' A H1 → va_S A H0 H1 locs1 → W p l e R s m args below meth c H1 locs1 (cells + mc) (slots + ms) Q (F0 m (pc + 3) ls ((v ad').toList ++ rest))) : W p l e R s m args below meth c H locs cells slots Q (F0 m pc ls st0) := by
  intro T hT X0
  obtain ⟨v', st₀, t, T', L, h0, X', hL, e1, e2, ⟨⟨ad', hE, hv, hX, hw⟩, hz, hk⟩, st⟩ := hr T hT X0
  cases hv
  rw [h0] at hz hk
  obtain ⟨t2, a1, b1⟩ := kk ad' T'.heap (locs ++ L) hE hX (by rw [e1]; exact hw)
    ⟨Nat.le_trans hS.1 (by rw [e1]; exact hz), fun q h1 h2 => by rw [e1, hk q (Nat.lt_of_lt_of_le h1 hS.1) h2]; exact hS.2.1 q h1 h2, fun q hq => by
      rcases List.mem_append.mp hq with h | h
      · exact hS.2.2 q h
      · exact hL q h⟩ T' rfl X'
  exact ⟨t2, st t2 a1, b1⟩
theorem lh_recv (hK : lh_K D cT s) (hW : lh_W D cT S ad A H) {k i N : Nat} {C : String} {T : u_T} (hi : i < gvN S k) (hc : vwCl[k]? = some (C, T, N)) (har : lh_ar k = none) : ∃ cell : Cell, H[ad k i]? = some cell ∧ cell.vm.isStatics = false ∧ s.vm.findClass C = some cell.cls := by
  obtain ⟨ws, hP, hD, h1, h2, hok⟩ := hW
  obtain ⟨q, hq⟩ := h1 k i hi
  rw [lh_cell, har] at hq
  exact va_recv hK hP hc hq
variable {y : MethodName} {bytes : ByteArray} {maxL nL n index : Nat} {ret : Option FieldType} {ws : List Cond} {rm : Room} {Qc : Array Value → State → Outcome → State → Prop} {Ts : List Cond} {own C : String} {As : List Value}
/-- a virtual call's run -/
theorem lh_rv (F : CallFix p m c cc nL s args Ts own) {k i N : Nat} {T : u_T} {o : Option Nat} (ho : o = some i) (hM : Met l y ws rm (lh_P D cT S ad A H.size (lh_r ad k o :: As)) Qc mc ms A) (cw : CallW R s args own C index y bytes maxL ret ws rm mc ms n) (hK : lh_K D cT s) (hN : lh_N s) (hW : lh_W D cT S ad A H) (hi : i < gvN S k) (hc : vwCl[k]? = some (C, T, N)) (har : lh_ar k = none)
    (hn : As.length = n) (hsz : ls.size = nL) (hst : st0 = As.reverse ++ lh_r ad k o :: rest) (hR : (rest.map fun v => v.category).sum ≤ 8) (hdg : decode cc pc = .ok (.invokevirtual index, 3)) (hf : cells + mc ≤ R.cells ∧ slots + ms ≤ R.slots) :
    va_Run p l e R s m args below meth c H locs cells slots mc ms (F0 m pc ls st0) rest (Qc (lh_r ad k o :: As).toArray) A := by
  subst ho
  exact va_runV F hM cw ⟨lh_blind, lh_recv hK hW hi hc har, lh_pre hW hK hN⟩ rfl hn hsz hst (lv_room (pc := pc) (ls := ls) (rest := st0) (m := m) hR) hdg hf
theorem lh_rs (F : CallFix p m c cc nL s args Ts own) (hM : Met l y ws rm (lh_P D cT S ad A H.size As) Qc mc ms A) (cw : CallB R s args own index y bytes maxL ret ws rm mc ms n ∧ (Cond.static y).before args s = true) (hK : lh_K D cT s) (hN : lh_N s) (hW : lh_W D cT S ad A H)
    (hn : As.length = n) (hsz : ls.size = nL) (hst : st0 = As.reverse ++ rest) (hR : (rest.map fun v => v.category).sum ≤ 8) (hdg : decode cc pc = .ok (.invokestatic index, 3)) (hf : cells + mc ≤ R.cells ∧ slots + ms ≤ R.slots) :
    va_Run p l e R s m args below meth c H locs cells slots mc ms (F0 m pc ls st0) rest (Qc As.toArray) A :=
  va_runS F hM cw ⟨lh_blind, lh_pre hW hK hN⟩ rfl hn hsz hst (lv_room (pc := pc) (ls := ls) (rest := st0) (m := m) hR) hdg hf
theorem lh_rsn {host : String} (F : CallFix p m c cc nL s args Ts own) (hM : Met l y ws rm (lh_P D cT S ad A H.size As) Qc mc ms A) (cw : va_CN R s args own index y host bytes maxL ret ws rm mc ms n ∧ (Cond.static y).before args s = true ∧ True) (hK : lh_K D cT s) (hN : lh_N s) (hW : lh_W D cT S ad A H)
    (hn : As.length = n) (hsz : ls.size = nL) (hst : st0 = As.reverse ++ rest) (hR : (rest.map fun v => v.category).sum ≤ 8) (hdg : decode cc pc = .ok (.invokestatic index, 3)) (hf : cells + mc ≤ R.cells ∧ slots + ms ≤ R.slots) :
    va_Run p l e R s m args below meth c H locs cells slots mc ms (F0 m pc ls st0) rest (Qc As.toArray) A :=
  va_runSN F hM cw ⟨lh_blind, lh_pre hW hK hN⟩ rfl hn hsz hst (lv_room (pc := pc) (ls := ls) (rest := st0) (m := m) hR) hdg hf
theorem lh_ri (F : CallFix p m c cc nL s args Ts own) {k i : Nat} {o : Option Nat} (ho : o = some i) (hM : Met l y ws rm (lh_P D cT S ad A H.size (lh_r ad k o :: As)) Qc mc ms A) (cw : CallB R s args own index y bytes maxL none ws rm mc ms n ∧ y.name = "<init>" ∧ (Cond.instanceMethod y).before args s = true) (hK : lh_K D cT s) (hN : lh_N s) (hW : lh_W D cT S ad A H)
    (hn : As.length = n) (hsz : ls.size = nL) (hst : st0 = As.reverse ++ lh_r ad k o :: rest) (hR : (rest.map fun v => v.category).sum ≤ 8) (hdg : decode cc pc = .ok (.invokespecial index, 3)) (hf : cells + mc ≤ R.cells ∧ slots + ms ≤ R.slots) :
    va_Run p l e R s m args below meth c H locs cells slots mc ms (F0 m pc ls st0) rest (Qc (lh_r ad k o :: As).toArray) A := by
  subst ho
  exact va_runI F hM cw ⟨lh_blind, lh_pre hW hK hN⟩ rfl hn hsz hst (lv_room (pc := pc) (ls := ls) (rest := st0) (m := m) hR) hdg hf
theorem lh_rin {host : String} (F : CallFix p m c cc nL s args Ts own) {k i : Nat} {o : Option Nat} (ho : o = some i) (hM : Met l y ws rm (lh_P D cT S ad A H.size (lh_r ad k o :: As)) Qc mc ms A) (cw : va_CN R s args own index y host bytes maxL none ws rm mc ms n ∧ y.name = "<init>" ∧ (Cond.instanceMethod y).before args s = true) (hK : lh_K D cT s) (hN : lh_N s) (hW : lh_W D cT S ad A H)
    (hn : As.length = n) (hsz : ls.size = nL) (hst : st0 = As.reverse ++ lh_r ad k o :: rest) (hR : (rest.map fun v => v.category).sum ≤ 8) (hdg : decode cc pc = .ok (.invokespecial index, 3)) (hf : cells + mc ≤ R.cells ∧ slots + ms ≤ R.slots) :
    va_Run p l e R s m args below meth c H locs cells slots mc ms (F0 m pc ls st0) rest (Qc (lh_r ad k o :: As).toArray) A := by
  subst ho
  exact va_runIN F hM cw ⟨lh_blind, lh_pre hW hK hN⟩ rfl hn hsz hst (lv_room (pc := pc) (ls := ls) (rest := st0) (m := m) hR) hdg hf
end LH3
-- the words of a decompiled method: each tells what its success says
def dc_nn {α : Type} (o : Option Nat) (f : Nat → Option α) : Option α := match o with
  | none => none
  | some a => f a
def dc_gd {α : Type} (c : Prop) [Decidable c] (x : Option α) : Option α := if c then none else x
def dc_if {α : Type} (c : Prop) [Decidable c] (x y : Option α) : Option α := if c then x else y
def dc_bd {α β : Type} (x : Option (α × lh_S)) (f : α → lh_S → Option β) : Option β := match x with
  | none => none
  | some a => f a.1 a.2
def dc_let {α β : Type} (x : α) (f : α → Option β) : Option β := f x
theorem dc_nn_ok {α : Type} {o : Option Nat} {f : Nat → Option α} {z : α} (h : dc_nn o f = some z) : ∃ a, o = some a ∧ f a = some z := by
  cases o with
  | none => cases h
  | some a => exact ⟨a, rfl, h⟩
theorem dc_gd_ok {α : Type} {c : Prop} [Decidable c] {x : Option α} {z : α} (h : dc_gd c x = some z) : ¬ c ∧ x = some z := by
  unfold dc_gd at h
  by_cases hc : c
  · rw [if_pos hc] at h; cases h
  · rw [if_neg hc] at h; exact ⟨hc, h⟩
theorem dc_if_t {α : Type} {c : Prop} [Decidable c] {x y : Option α} {z : α} (hc : c) (h : dc_if c x y = some z) : x = some z := by
  unfold dc_if at h; rw [if_pos hc] at h; exact h
theorem dc_if_f {α : Type} {c : Prop} [Decidable c] {x y : Option α} {z : α} (hc : ¬ c) (h : dc_if c x y = some z) : y = some z := by
  unfold dc_if at h; rw [if_neg hc] at h; exact h
theorem dc_bd_ok {α β : Type} {x : Option (α × lh_S)} {f : α → lh_S → Option β} {z : β} (h : dc_bd x f = some z) : ∃ (a : α) (S : lh_S), x = some (a, S) ∧ f a S = some z := by
  cases x with
  | none => cases h
  | some a => exact ⟨a.1, a.2, rfl, h⟩
theorem dc_let_ok {α β : Type} {x : α} {f : α → Option β} {z : β} (h : dc_let x f = some z) : ∃ a : α, a = x ∧ f a = some z := ⟨x, rfl, h⟩
theorem dc_ret {α : Type} {x y : α} {S T : lh_S} (h : some (x, S) = some (y, T)) : x = y ∧ S = T := by cases h; exact ⟨rfl, rfl⟩
end
