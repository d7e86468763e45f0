-- ===== PART A: goes FIRST, ahead of the names: the tables' words, and 'selects' of the private methods out of them =====
/-- a private method of a class that the tables say can be made, by its rows of tables_1 -/
def lw_okq (q : MethodName × Nat) : Prop := (q.1.cls ≠ "java/lang/invoke/MethodHandle" ∧ q.1.cls ≠ "java/lang/invoke/VarHandle") ∧ Cond.instantiable q.1.cls q.2 ∈ tables_1 ∧ Cond.privateMethod q.1 ∈ tables_1 ∧ Cond.instanceMethod q.1 ∈ tables_1
theorem lw_p0 : lw_okq (⟨"DeedBench", "canBeMarked", "(II)Z"⟩, 13) := ⟨⟨by decide +kernel, by decide +kernel⟩, List.mem_of_getElem? (i := 12) (by decide +kernel), List.mem_of_getElem? (i := 242) (by decide +kernel), List.mem_of_getElem? (i := 243) (by decide +kernel)⟩
theorem lw_p1 : lw_okq (⟨"DeedBench", "areDeeds", "(I)Z"⟩, 13) := ⟨⟨by decide +kernel, by decide +kernel⟩, List.mem_of_getElem? (i := 12) (by decide +kernel), List.mem_of_getElem? (i := 274) (by decide +kernel), List.mem_of_getElem? (i := 275) (by decide +kernel)⟩
theorem lw_p2 : lw_okq (⟨"DeedBench", "allDeeds", "()I"⟩, 13) := ⟨⟨by decide +kernel, by decide +kernel⟩, List.mem_of_getElem? (i := 12) (by decide +kernel), List.mem_of_getElem? (i := 278) (by decide +kernel), List.mem_of_getElem? (i := 279) (by decide +kernel)⟩
theorem lw_p3 : lw_okq (⟨"DeedBench", "settle", "()V"⟩, 13) := ⟨⟨by decide +kernel, by decide +kernel⟩, List.mem_of_getElem? (i := 12) (by decide +kernel), List.mem_of_getElem? (i := 282) (by decide +kernel), List.mem_of_getElem? (i := 283) (by decide +kernel)⟩
theorem lw_p4 : lw_okq (⟨"DeedBench", "ownFirst", "(I)I"⟩, 13) := ⟨⟨by decide +kernel, by decide +kernel⟩, List.mem_of_getElem? (i := 12) (by decide +kernel), List.mem_of_getElem? (i := 286) (by decide +kernel), List.mem_of_getElem? (i := 287) (by decide +kernel)⟩
theorem lw_p5 : lw_okq (⟨"DeedBench", "ownLast", "(I)I"⟩, 13) := ⟨⟨by decide +kernel, by decide +kernel⟩, List.mem_of_getElem? (i := 12) (by decide +kernel), List.mem_of_getElem? (i := 296) (by decide +kernel), List.mem_of_getElem? (i := 297) (by decide +kernel)⟩
theorem lw_p6 : lw_okq (⟨"DeedBench$Timeline", "firstBroken", "(I)I"⟩, 11) := ⟨⟨by decide +kernel, by decide +kernel⟩, List.mem_of_getElem? (i := 53) (by decide +kernel), List.mem_of_getElem? (i := 331) (by decide +kernel), List.mem_of_getElem? (i := 332) (by decide +kernel)⟩
theorem lw_p7 : lw_okq (⟨"DeedBench$Timeline", "lowerOnce", "(I)Z"⟩, 11) := ⟨⟨by decide +kernel, by decide +kernel⟩, List.mem_of_getElem? (i := 53) (by decide +kernel), List.mem_of_getElem? (i := 336) (by decide +kernel), List.mem_of_getElem? (i := 337) (by decide +kernel)⟩
theorem lw_p8 : lw_okq (⟨"DeedBench$Search", "keepBetter", "(I)V"⟩, 4) := ⟨⟨by decide +kernel, by decide +kernel⟩, List.mem_of_getElem? (i := 100) (by decide +kernel), List.mem_of_getElem? (i := 343) (by decide +kernel), List.mem_of_getElem? (i := 344) (by decide +kernel)⟩
theorem lw_p9 : lw_okq (⟨"DeedBench$Timeline", "raiseOnce", "(I)Z"⟩, 11) := ⟨⟨by decide +kernel, by decide +kernel⟩, List.mem_of_getElem? (i := 53) (by decide +kernel), List.mem_of_getElem? (i := 355) (by decide +kernel), List.mem_of_getElem? (i := 356) (by decide +kernel)⟩
theorem lw_p10 : lw_okq (⟨"DeedBench", "forgedOnes", "()I"⟩, 13) := ⟨⟨by decide +kernel, by decide +kernel⟩, List.mem_of_getElem? (i := 12) (by decide +kernel), List.mem_of_getElem? (i := 364) (by decide +kernel), List.mem_of_getElem? (i := 365) (by decide +kernel)⟩
theorem lw_p11 : lw_okq (⟨"DeedBench", "isTrue", "(I)Z"⟩, 13) := ⟨⟨by decide +kernel, by decide +kernel⟩, List.mem_of_getElem? (i := 12) (by decide +kernel), List.mem_of_getElem? (i := 377) (by decide +kernel), List.mem_of_getElem? (i := 378) (by decide +kernel)⟩
theorem lw_p12 : lw_okq (⟨"DeedBench$Writing", "compareWith", "(II)V"⟩, 8) := ⟨⟨by decide +kernel, by decide +kernel⟩, List.mem_of_getElem? (i := 120) (by decide +kernel), List.mem_of_getElem? (i := 421) (by decide +kernel), List.mem_of_getElem? (i := 422) (by decide +kernel)⟩
theorem lw_p13 : lw_okq (⟨"DeedBench$Writing", "alike", "(IIII)I"⟩, 8) := ⟨⟨by decide +kernel, by decide +kernel⟩, List.mem_of_getElem? (i := 120) (by decide +kernel), List.mem_of_getElem? (i := 425) (by decide +kernel), List.mem_of_getElem? (i := 426) (by decide +kernel)⟩
theorem lw_p14 : lw_okq (⟨"DeedBench", "disputed", "(II)I"⟩, 13) := ⟨⟨by decide +kernel, by decide +kernel⟩, List.mem_of_getElem? (i := 12) (by decide +kernel), List.mem_of_getElem? (i := 438) (by decide +kernel), List.mem_of_getElem? (i := 439) (by decide +kernel)⟩
theorem lw_p15 : lw_okq (⟨"DeedBench", "isMisjudged", "(I)Z"⟩, 13) := ⟨⟨by decide +kernel, by decide +kernel⟩, List.mem_of_getElem? (i := 12) (by decide +kernel), List.mem_of_getElem? (i := 450) (by decide +kernel), List.mem_of_getElem? (i := 451) (by decide +kernel)⟩
def lw_privs_1 : List (MethodName × Nat) := [(⟨"DeedBench", "canBeMarked", "(II)Z"⟩, 13), (⟨"DeedBench", "areDeeds", "(I)Z"⟩, 13), (⟨"DeedBench", "allDeeds", "()I"⟩, 13), (⟨"DeedBench", "settle", "()V"⟩, 13), (⟨"DeedBench", "ownFirst", "(I)I"⟩, 13), (⟨"DeedBench", "ownLast", "(I)I"⟩, 13), (⟨"DeedBench$Timeline", "firstBroken", "(I)I"⟩, 11), (⟨"DeedBench$Timeline", "lowerOnce", "(I)Z"⟩, 11), (⟨"DeedBench$Search", "keepBetter", "(I)V"⟩, 4), (⟨"DeedBench$Timeline", "raiseOnce", "(I)Z"⟩, 11), (⟨"DeedBench", "forgedOnes", "()I"⟩, 13), (⟨"DeedBench", "isTrue", "(I)Z"⟩, 13), (⟨"DeedBench$Writing", "compareWith", "(II)V"⟩, 8), (⟨"DeedBench$Writing", "alike", "(IIII)I"⟩, 8), (⟨"DeedBench", "disputed", "(II)I"⟩, 13), (⟨"DeedBench", "isMisjudged", "(I)Z"⟩, 13)]
theorem lw_r1 : ∀ q ∈ lw_privs_1, lw_okq q := List.forall_mem_cons.mpr ⟨lw_p0, List.forall_mem_cons.mpr ⟨lw_p1, List.forall_mem_cons.mpr ⟨lw_p2, List.forall_mem_cons.mpr ⟨lw_p3, List.forall_mem_cons.mpr ⟨lw_p4, List.forall_mem_cons.mpr ⟨lw_p5, List.forall_mem_cons.mpr ⟨lw_p6, List.forall_mem_cons.mpr ⟨lw_p7, List.forall_mem_cons.mpr ⟨lw_p8, List.forall_mem_cons.mpr ⟨lw_p9, List.forall_mem_cons.mpr ⟨lw_p10, List.forall_mem_cons.mpr ⟨lw_p11, List.forall_mem_cons.mpr ⟨lw_p12, List.forall_mem_cons.mpr ⟨lw_p13, List.forall_mem_cons.mpr ⟨lw_p14, List.forall_mem_cons.mpr ⟨lw_p15, fun _ h => absurd h List.not_mem_nil⟩⟩⟩⟩⟩⟩⟩⟩⟩⟩⟩⟩⟩⟩⟩⟩
theorem lw_p16 : lw_okq (⟨"DeedBench", "hasOwnYear", "(I)Z"⟩, 13) := ⟨⟨by decide +kernel, by decide +kernel⟩, List.mem_of_getElem? (i := 12) (by decide +kernel), List.mem_of_getElem? (i := 459) (by decide +kernel), List.mem_of_getElem? (i := 460) (by decide +kernel)⟩
theorem lw_p17 : lw_okq (⟨"DeedBench", "clashes", "()I"⟩, 13) := ⟨⟨by decide +kernel, by decide +kernel⟩, List.mem_of_getElem? (i := 12) (by decide +kernel), List.mem_of_getElem? (i := 468) (by decide +kernel), List.mem_of_getElem? (i := 469) (by decide +kernel)⟩
theorem lw_p18 : lw_okq (⟨"DeedBenchModel", "isDeed", "(I)Z"⟩, 34) := ⟨⟨by decide +kernel, by decide +kernel⟩, List.mem_of_getElem? (i := 472) (by decide +kernel), List.mem_of_getElem? (i := 617) (by decide +kernel), List.mem_of_getElem? (i := 618) (by decide +kernel)⟩
theorem lw_p19 : lw_okq (⟨"DeedBenchModel", "manyOf", "(I)I"⟩, 34) := ⟨⟨by decide +kernel, by decide +kernel⟩, List.mem_of_getElem? (i := 472) (by decide +kernel), List.mem_of_getElem? (i := 621) (by decide +kernel), List.mem_of_getElem? (i := 622) (by decide +kernel)⟩
theorem lw_p20 : lw_okq (⟨"DeedBenchModel", "hasMark", "(III)Z"⟩, 34) := ⟨⟨by decide +kernel, by decide +kernel⟩, List.mem_of_getElem? (i := 472) (by decide +kernel), List.mem_of_getElem? (i := 625) (by decide +kernel), List.mem_of_getElem? (i := 626) (by decide +kernel)⟩
theorem lw_p21 : lw_okq (⟨"DeedBenchModel", "isSet", "(I)Z"⟩, 34) := ⟨⟨by decide +kernel, by decide +kernel⟩, List.mem_of_getElem? (i := 472) (by decide +kernel), List.mem_of_getElem? (i := 633) (by decide +kernel), List.mem_of_getElem? (i := 634) (by decide +kernel)⟩
theorem lw_p22 : lw_okq (⟨"DeedBenchModel", "works", "()V"⟩, 34) := ⟨⟨by decide +kernel, by decide +kernel⟩, List.mem_of_getElem? (i := 472) (by decide +kernel), List.mem_of_getElem? (i := 637) (by decide +kernel), List.mem_of_getElem? (i := 638) (by decide +kernel)⟩
theorem lw_p23 : lw_okq (⟨"DeedBenchModel", "owns", "()V"⟩, 34) := ⟨⟨by decide +kernel, by decide +kernel⟩, List.mem_of_getElem? (i := 472) (by decide +kernel), List.mem_of_getElem? (i := 641) (by decide +kernel), List.mem_of_getElem? (i := 642) (by decide +kernel)⟩
theorem lw_p24 : lw_okq (⟨"DeedBenchModel", "narrows", "(III)V"⟩, 34) := ⟨⟨by decide +kernel, by decide +kernel⟩, List.mem_of_getElem? (i := 472) (by decide +kernel), List.mem_of_getElem? (i := 645) (by decide +kernel), List.mem_of_getElem? (i := 646) (by decide +kernel)⟩
theorem lw_p25 : lw_okq (⟨"DeedBenchModel", "agrees", "(I)Z"⟩, 34) := ⟨⟨by decide +kernel, by decide +kernel⟩, List.mem_of_getElem? (i := 472) (by decide +kernel), List.mem_of_getElem? (i := 649) (by decide +kernel), List.mem_of_getElem? (i := 650) (by decide +kernel)⟩
theorem lw_p26 : lw_okq (⟨"DeedBenchModel", "ups", "(I)V"⟩, 34) := ⟨⟨by decide +kernel, by decide +kernel⟩, List.mem_of_getElem? (i := 472) (by decide +kernel), List.mem_of_getElem? (i := 656) (by decide +kernel), List.mem_of_getElem? (i := 657) (by decide +kernel)⟩
theorem lw_p27 : lw_okq (⟨"DeedBenchModel", "weightOf", "(I)I"⟩, 34) := ⟨⟨by decide +kernel, by decide +kernel⟩, List.mem_of_getElem? (i := 472) (by decide +kernel), List.mem_of_getElem? (i := 663) (by decide +kernel), List.mem_of_getElem? (i := 664) (by decide +kernel)⟩
theorem lw_p28 : lw_okq (⟨"DeedBenchModel", "downs", "(I)V"⟩, 34) := ⟨⟨by decide +kernel, by decide +kernel⟩, List.mem_of_getElem? (i := 472) (by decide +kernel), List.mem_of_getElem? (i := 667) (by decide +kernel), List.mem_of_getElem? (i := 668) (by decide +kernel)⟩
theorem lw_p29 : lw_okq (⟨"DeedBenchModel", "isTrue", "(I)Z"⟩, 34) := ⟨⟨by decide +kernel, by decide +kernel⟩, List.mem_of_getElem? (i := 472) (by decide +kernel), List.mem_of_getElem? (i := 683) (by decide +kernel), List.mem_of_getElem? (i := 684) (by decide +kernel)⟩
theorem lw_p30 : lw_okq (⟨"DeedBenchModel", "push", "(I)V"⟩, 34) := ⟨⟨by decide +kernel, by decide +kernel⟩, List.mem_of_getElem? (i := 472) (by decide +kernel), List.mem_of_getElem? (i := 699) (by decide +kernel), List.mem_of_getElem? (i := 700) (by decide +kernel)⟩
theorem lw_p31 : lw_okq (⟨"DeedBenchModel", "alike", "(IIII)I"⟩, 34) := ⟨⟨by decide +kernel, by decide +kernel⟩, List.mem_of_getElem? (i := 472) (by decide +kernel), List.mem_of_getElem? (i := 711) (by decide +kernel), List.mem_of_getElem? (i := 712) (by decide +kernel)⟩
def lw_privs_2 : List (MethodName × Nat) := [(⟨"DeedBench", "hasOwnYear", "(I)Z"⟩, 13), (⟨"DeedBench", "clashes", "()I"⟩, 13), (⟨"DeedBenchModel", "isDeed", "(I)Z"⟩, 34), (⟨"DeedBenchModel", "manyOf", "(I)I"⟩, 34), (⟨"DeedBenchModel", "hasMark", "(III)Z"⟩, 34), (⟨"DeedBenchModel", "isSet", "(I)Z"⟩, 34), (⟨"DeedBenchModel", "works", "()V"⟩, 34), (⟨"DeedBenchModel", "owns", "()V"⟩, 34), (⟨"DeedBenchModel", "narrows", "(III)V"⟩, 34), (⟨"DeedBenchModel", "agrees", "(I)Z"⟩, 34), (⟨"DeedBenchModel", "ups", "(I)V"⟩, 34), (⟨"DeedBenchModel", "weightOf", "(I)I"⟩, 34), (⟨"DeedBenchModel", "downs", "(I)V"⟩, 34), (⟨"DeedBenchModel", "isTrue", "(I)Z"⟩, 34), (⟨"DeedBenchModel", "push", "(I)V"⟩, 34), (⟨"DeedBenchModel", "alike", "(IIII)I"⟩, 34)]
theorem lw_r2 : ∀ q ∈ lw_privs_2, lw_okq q := List.forall_mem_cons.mpr ⟨lw_p16, List.forall_mem_cons.mpr ⟨lw_p17, List.forall_mem_cons.mpr ⟨lw_p18, List.forall_mem_cons.mpr ⟨lw_p19, List.forall_mem_cons.mpr ⟨lw_p20, List.forall_mem_cons.mpr ⟨lw_p21, List.forall_mem_cons.mpr ⟨lw_p22, List.forall_mem_cons.mpr ⟨lw_p23, List.forall_mem_cons.mpr ⟨lw_p24, List.forall_mem_cons.mpr ⟨lw_p25, List.forall_mem_cons.mpr ⟨lw_p26, List.forall_mem_cons.mpr ⟨lw_p27, List.forall_mem_cons.mpr ⟨lw_p28, List.forall_mem_cons.mpr ⟨lw_p29, List.forall_mem_cons.mpr ⟨lw_p30, List.forall_mem_cons.mpr ⟨lw_p31, fun _ h => absurd h List.not_mem_nil⟩⟩⟩⟩⟩⟩⟩⟩⟩⟩⟩⟩⟩⟩⟩⟩
theorem lw_p32 : lw_okq (⟨"DeedBenchModel", "both", "(II)I"⟩, 34) := ⟨⟨by decide +kernel, by decide +kernel⟩, List.mem_of_getElem? (i := 472) (by decide +kernel), List.mem_of_getElem? (i := 723) (by decide +kernel), List.mem_of_getElem? (i := 724) (by decide +kernel)⟩
def lw_privs_3 : List (MethodName × Nat) := [(⟨"DeedBenchModel", "both", "(II)I"⟩, 34)]
theorem lw_r3 : ∀ q ∈ lw_privs_3, lw_okq q := List.forall_mem_cons.mpr ⟨lw_p32, fun _ h => absurd h List.not_mem_nil⟩
def lw_privs : List (MethodName × Nat) := lw_privs_1 ++ (lw_privs_2 ++ (lw_privs_3))
def lw_tbl : List Cond := k2_sels lw_privs ++ tables_1
theorem lw_privs_ok : ∀ q ∈ lw_privs, lw_okq q := by
  show ∀ q ∈ lw_privs_1 ++ (lw_privs_2 ++ (lw_privs_3)), lw_okq q
  exact List.forall_mem_append.mpr ⟨lw_r1, List.forall_mem_append.mpr ⟨lw_r2, lw_r3⟩⟩
/-! ===== BEGIN words of one list among another's, by their places ===== -/
theorem goodIn_r {big : List Cond} (ws : List Cond) (ps : List Nat) (hp : ws = ps.filterMap (fun i => big[i]?)) (h : ws.all goodWord = true) : GoodIn big ws := by
  intro w hw
  have h1 := List.all_eq_true.mp h w hw
  rw [hp] at hw
  obtain ⟨i, -, hi⟩ := List.mem_filterMap.mp hw
  have hm : w ∈ big := by first | exact List.mem_of_getElem? hi | exact List.getElem?_mem hi
  exact ⟨hm, good_of_word h1⟩
theorem goodIn_app {big a b : List Cond} (ha : GoodIn big a) (hb : GoodIn big b) : GoodIn big (a ++ b) := fun w h => (List.mem_append.mp h).elim (ha w) (hb w)
theorem goodIn_ca {big a b : List Cond} {c : Cond} (ha : GoodIn big (c :: a)) (hb : GoodIn big b) : GoodIn big (c :: (a ++ b)) := fun w h => (List.mem_cons.mp h).elim (fun e => ha w (List.mem_cons.mpr (Or.inl e))) (fun h => (List.mem_append.mp h).elim (fun h => ha w (List.mem_cons.mpr (Or.inr h))) (hb w))
theorem goodIn_sub {big ws : List Cond} (hm : ∀ w ∈ ws, w ∈ big) (h : ws.all goodWord = true) : GoodIn big ws := fun w hw => ⟨hm w hw, good_of_word (List.all_eq_true.mp h w hw)⟩
/-! ===== END ===== -/

/-! ===== BEGIN printed: names, fields, word lists, decode rows ===== -/
def RX0 : String := "DeedBench$Marks"
def TX0 : u_T := fun k => match k with
  | _ => ("DeedBench$Marks", "sets", "[I", true)
def tyX0 : Nat → FieldType := fun k => match k with
  | _ => .array .int
abbrev wsX00 : List Cond := u_ws RX0 TX0 1
theorem nmX0 : ∀ a, a < 1 → ∀ b, b < 1 → a ≠ b → (TX0 a).2.1 ≠ (TX0 b).2.1 := by decide +kernel
theorem tyX0_ok : ∀ k, k < 1 → parseFieldDescriptor (TX0 k).2.2.1 = some (tyX0 k) := by decide +kernel
abbrev cX0_init : ByteArray := prog_2_method_1_code
def yX0_init : MethodName := ⟨RX0, "<init>", "()V"⟩
abbrev cX0_isPlace : ByteArray := prog_2_method_2_code
def yX0_isPlace : MethodName := ⟨RX0, "isPlace", "(II)Z"⟩
abbrev cX0_of : ByteArray := prog_2_method_3_code
def yX0_of : MethodName := ⟨RX0, "of", "(II)I"⟩
abbrev cX0_many : ByteArray := prog_2_method_4_code
def yX0_many : MethodName := ⟨RX0, "many", "(I)I"⟩
abbrev cX0_put : ByteArray := prog_2_method_5_code
def yX0_put : MethodName := ⟨RX0, "put", "(III)Z"⟩
abbrev cX0_sharingHand : ByteArray := prog_2_method_6_code
def yX0_sharingHand : MethodName := ⟨RX0, "sharingHand", "(I)I"⟩
def RX1 : String := "DeedBench$Search"
def TX1 : u_T := fun k => match k with
  | 0 => ("DeedBench$Search", "timeline", "LDeedBench$Timeline;", true)
  | 1 => ("DeedBench$Search", "weights", "[I", true)
  | 2 => ("DeedBench$Search", "best", "I", false)
  | _ => ("DeedBench$Search", "bestWeight", "I", false)
def tyX1 : Nat → FieldType := fun k => match k with
  | 0 => .object "DeedBench$Timeline"
  | 1 => .array .int
  | 2 => .int
  | _ => .int
abbrev wsX10 : List Cond := u_ws RX1 TX1 4
theorem nmX1 : ∀ a, a < 4 → ∀ b, b < 4 → a ≠ b → (TX1 a).2.1 ≠ (TX1 b).2.1 := by decide +kernel
theorem tyX1_ok : ∀ k, k < 4 → parseFieldDescriptor (TX1 k).2.2.1 = some (tyX1 k) := by decide +kernel
abbrev cX1_init : ByteArray := prog_3_method_1_code
def yX1_init : MethodName := ⟨RX1, "<init>", "(LDeedBench$Timeline;)V"⟩
abbrev cX1_lightest : ByteArray := prog_3_method_2_code
def yX1_lightest : MethodName := ⟨RX1, "lightest", "(I)I"⟩
abbrev cX1_weigh : ByteArray := prog_3_method_3_code
def yX1_weigh : MethodName := ⟨RX1, "weigh", "(I)I"⟩
abbrev cX1_forge : ByteArray := prog_3_method_4_code
def yX1_forge : MethodName := ⟨RX1, "forge", "(LDeedBench$Search;IIII)V"⟩
abbrev cX1_keepBetter : ByteArray := prog_3_method_5_code
def yX1_keepBetter : MethodName := ⟨RX1, "keepBetter", "(I)V"⟩
def RX2 : String := "DeedBench$Spans"
def TX2 : u_T := fun k => match k with
  | 0 => ("DeedBench$Spans", "from", "[I", true)
  | 1 => ("DeedBench$Spans", "to", "[I", true)
  | _ => ("DeedBench$Spans", "size", "I", false)
def tyX2 : Nat → FieldType := fun k => match k with
  | 0 => .array .int
  | 1 => .array .int
  | _ => .int
abbrev wsX20 : List Cond := u_ws RX2 TX2 3
theorem nmX2 : ∀ a, a < 3 → ∀ b, b < 3 → a ≠ b → (TX2 a).2.1 ≠ (TX2 b).2.1 := by decide +kernel
theorem tyX2_ok : ∀ k, k < 3 → parseFieldDescriptor (TX2 k).2.2.1 = some (tyX2 k) := by decide +kernel
abbrev cX2_init : ByteArray := prog_4_method_1_code
def yX2_init : MethodName := ⟨RX2, "<init>", "(I)V"⟩
abbrev cX2_areYears : ByteArray := prog_4_method_2_code
def yX2_areYears : MethodName := ⟨RX2, "areYears", "(II)Z"⟩
abbrev cX2_has : ByteArray := prog_4_method_3_code
def yX2_has : MethodName := ⟨RX2, "has", "(I)Z"⟩
abbrev cX2_add : ByteArray := prog_4_method_4_code
def yX2_add : MethodName := ⟨RX2, "add", "(II)I"⟩
abbrev cX2_change : ByteArray := prog_4_method_5_code
def yX2_change : MethodName := ⟨RX2, "change", "(III)Z"⟩
abbrev cX2_latestStart : ByteArray := prog_4_method_6_code
def yX2_latestStart : MethodName := ⟨RX2, "latestStart", "(II)I"⟩
abbrev cX2_earliestEnd : ByteArray := prog_4_method_7_code
def yX2_earliestEnd : MethodName := ⟨RX2, "earliestEnd", "(II)I"⟩
def RX3 : String := "DeedBench$Timeline"
def TX3 : u_T := fun k => match k with
  | 0 => ("DeedBench$Timeline", "first", "[I", true)
  | 1 => ("DeedBench$Timeline", "last", "[I", true)
  | 2 => ("DeedBench$Timeline", "near", "[I", true)
  | 3 => ("DeedBench$Timeline", "named", "[I", true)
  | 4 => ("DeedBench$Timeline", "least", "[I", true)
  | 5 => ("DeedBench$Timeline", "greatest", "[I", true)
  | 6 => ("DeedBench$Timeline", "latest", "[I", true)
  | 7 => ("DeedBench$Timeline", "before", "[I", true)
  | 8 => ("DeedBench$Timeline", "cause", "[I", true)
  | 9 => ("DeedBench$Timeline", "w", "I", false)
  | _ => ("DeedBench$Timeline", "broken", "I", false)
def tyX3 : Nat → FieldType := fun k => match k with
  | 0 => .array .int
  | 1 => .array .int
  | 2 => .array .int
  | 3 => .array .int
  | 4 => .array .int
  | 5 => .array .int
  | 6 => .array .int
  | 7 => .array .int
  | 8 => .array .int
  | 9 => .int
  | _ => .int
abbrev wsX30 : List Cond := u_ws RX3 TX3 11
theorem nmX3 : ∀ a, a < 11 → ∀ b, b < 11 → a ≠ b → (TX3 a).2.1 ≠ (TX3 b).2.1 := by decide +kernel
theorem tyX3_ok : ∀ k, k < 11 → parseFieldDescriptor (TX3 k).2.2.1 = some (tyX3 k) := by decide +kernel
abbrev cX3_init : ByteArray := prog_5_method_1_code
def yX3_init : MethodName := ⟨RX3, "<init>", "()V"⟩
abbrev cX3_roundsToBreak : ByteArray := prog_5_method_2_code
def yX3_roundsToBreak : MethodName := ⟨RX3, "roundsToBreak", "(I)I"⟩
abbrev cX3_firstBroken : ByteArray := prog_5_method_3_code
def yX3_firstBroken : MethodName := ⟨RX3, "firstBroken", "(I)I"⟩
abbrev cX3_lowerOnce : ByteArray := prog_5_method_4_code
def yX3_lowerOnce : MethodName := ⟨RX3, "lowerOnce", "(I)Z"⟩
abbrev cX3_raiseOnce : ByteArray := prog_5_method_5_code
def yX3_raiseOnce : MethodName := ⟨RX3, "raiseOnce", "(I)Z"⟩
abbrev cX3_conflictIn : ByteArray := prog_5_method_6_code
def yX3_conflictIn : MethodName := ⟨RX3, "conflictIn", "(I)I"⟩
abbrev cX3_quarrelIn : ByteArray := prog_5_method_7_code
def yX3_quarrelIn : MethodName := ⟨RX3, "quarrelIn", "(I)I"⟩
abbrev cX3_keepYears : ByteArray := prog_5_method_8_code
def yX3_keepYears : MethodName := ⟨RX3, "keepYears", "(I)V"⟩
def RX4 : String := "DeedBench$Writing"
def TX4 : u_T := fun k => match k with
  | 0 => ("DeedBench$Writing", "tape", "[I", true)
  | 1 => ("DeedBench$Writing", "letters", "[I", true)
  | 2 => ("DeedBench$Writing", "sizes", "[I", true)
  | 3 => ("DeedBench$Writing", "tapeSize", "I", false)
  | 4 => ("DeedBench$Writing", "modelDeed", "I", false)
  | 5 => ("DeedBench$Writing", "modelLetters", "I", false)
  | 6 => ("DeedBench$Writing", "modelHere", "I", false)
  | _ => ("DeedBench$Writing", "modelThere", "I", false)
def tyX4 : Nat → FieldType := fun k => match k with
  | 0 => .array .int
  | 1 => .array .int
  | 2 => .array .int
  | 3 => .int
  | 4 => .int
  | 5 => .int
  | 6 => .int
  | _ => .int
abbrev wsX40 : List Cond := u_ws RX4 TX4 8
theorem nmX4 : ∀ a, a < 8 → ∀ b, b < 8 → a ≠ b → (TX4 a).2.1 ≠ (TX4 b).2.1 := by decide +kernel
theorem tyX4_ok : ∀ k, k < 8 → parseFieldDescriptor (TX4 k).2.2.1 = some (tyX4 k) := by decide +kernel
abbrev cX4_init : ByteArray := prog_6_method_1_code
def yX4_init : MethodName := ⟨RX4, "<init>", "()V"⟩
abbrev cX4_putBytes : ByteArray := prog_6_method_2_code
def yX4_putBytes : MethodName := ⟨RX4, "putBytes", "(I)V"⟩
abbrev cX4_take : ByteArray := prog_6_method_3_code
def yX4_take : MethodName := ⟨RX4, "take", "(II)Z"⟩
abbrev cX4_findModel : ByteArray := prog_6_method_4_code
def yX4_findModel : MethodName := ⟨RX4, "findModel", "(I)V"⟩
abbrev cX4_compareWith : ByteArray := prog_6_method_5_code
def yX4_compareWith : MethodName := ⟨RX4, "compareWith", "(II)V"⟩
abbrev cX4_alike : ByteArray := prog_6_method_6_code
def yX4_alike : MethodName := ⟨RX4, "alike", "(IIII)I"⟩
def RX5 : String := "DeedBench"
def TX5 : u_T := fun k => match k with
  | 0 => ("DeedBench", "people", "LDeedBench$Spans;", true)
  | 1 => ("DeedBench", "formulas", "LDeedBench$Spans;", true)
  | 2 => ("DeedBench", "seals", "LDeedBench$Spans;", true)
  | 3 => ("DeedBench", "deeds", "LDeedBench$Spans;", true)
  | 4 => ("DeedBench", "marks", "LDeedBench$Marks;", true)
  | 5 => ("DeedBench", "timeline", "LDeedBench$Timeline;", true)
  | 6 => ("DeedBench", "search", "LDeedBench$Search;", true)
  | 7 => ("DeedBench", "writing", "LDeedBench$Writing;", true)
  | 8 => ("DeedBench", "house", "[I", true)
  | 9 => ("DeedBench", "parcels", "[I", true)
  | 10 => ("DeedBench", "verdict", "[I", true)
  | 11 => ("DeedBench", "trueOnes", "I", false)
  | _ => ("DeedBench", "settled", "Z", false)
def tyX5 : Nat → FieldType := fun k => match k with
  | 0 => .object "DeedBench$Spans"
  | 1 => .object "DeedBench$Spans"
  | 2 => .object "DeedBench$Spans"
  | 3 => .object "DeedBench$Spans"
  | 4 => .object "DeedBench$Marks"
  | 5 => .object "DeedBench$Timeline"
  | 6 => .object "DeedBench$Search"
  | 7 => .object "DeedBench$Writing"
  | 8 => .array .int
  | 9 => .array .int
  | 10 => .array .int
  | 11 => .int
  | _ => .boolean
abbrev wsX50 : List Cond := u_ws RX5 TX5 13
theorem nmX5 : ∀ a, a < 13 → ∀ b, b < 13 → a ≠ b → (TX5 a).2.1 ≠ (TX5 b).2.1 := by decide +kernel
theorem tyX5_ok : ∀ k, k < 13 → parseFieldDescriptor (TX5 k).2.2.1 = some (tyX5 k) := by decide +kernel
abbrev cX5_init : ByteArray := prog_1_method_1_code
def yX5_init : MethodName := ⟨RX5, "<init>", "()V"⟩
abbrev cX5_person : ByteArray := prog_1_method_2_code
def yX5_person : MethodName := ⟨RX5, "person", "(II)I"⟩
abbrev cX5_lived : ByteArray := prog_1_method_3_code
def yX5_lived : MethodName := ⟨RX5, "lived", "(III)Z"⟩
abbrev cX5_formula : ByteArray := prog_1_method_4_code
def yX5_formula : MethodName := ⟨RX5, "formula", "(II)I"⟩
abbrev cX5_seal : ByteArray := prog_1_method_5_code
def yX5_seal : MethodName := ⟨RX5, "seal", "(II)I"⟩
abbrev cX5_span : ByteArray := prog_1_method_6_code
def yX5_span : MethodName := ⟨RX5, "span", "(I)Z"⟩
abbrev cX5_deed : ByteArray := prog_1_method_7_code
def yX5_deed : MethodName := ⟨RX5, "deed", "(III)I"⟩
abbrev cX5_mark : ByteArray := prog_1_method_8_code
def yX5_mark : MethodName := ⟨RX5, "mark", "(III)Z"⟩
abbrev cX5_agree : ByteArray := prog_1_method_9_code
def yX5_agree : MethodName := ⟨RX5, "agree", "(I)I"⟩
abbrev cX5_forged : ByteArray := prog_1_method_10_code
def yX5_forged : MethodName := ⟨RX5, "forged", "()I"⟩
abbrev cX5_weight : ByteArray := prog_1_method_11_code
def yX5_weight : MethodName := ⟨RX5, "weight", "(I)I"⟩
abbrev cX5_year : ByteArray := prog_1_method_12_code
def yX5_year : MethodName := ⟨RX5, "year", "(II)I"⟩
abbrev cX5_quarrel : ByteArray := prog_1_method_13_code
def yX5_quarrel : MethodName := ⟨RX5, "quarrel", "()I"⟩
abbrev cX5_sure : ByteArray := prog_1_method_14_code
def yX5_sure : MethodName := ⟨RX5, "sure", "(II)I"⟩
abbrev cX5_feed : ByteArray := prog_1_method_15_code
def yX5_feed : MethodName := ⟨RX5, "feed", "(IIIII)I"⟩
abbrev cX5_words : ByteArray := prog_1_method_16_code
def yX5_words : MethodName := ⟨RX5, "words", "(II)Z"⟩
abbrev cX5_model : ByteArray := prog_1_method_17_code
def yX5_model : MethodName := ⟨RX5, "model", "(II)I"⟩
abbrev cX5_claim : ByteArray := prog_1_method_18_code
def yX5_claim : MethodName := ⟨RX5, "claim", "(III)Z"⟩
abbrev cX5_clash : ByteArray := prog_1_method_19_code
def yX5_clash : MethodName := ⟨RX5, "clash", "(II)I"⟩
abbrev cX5_court : ByteArray := prog_1_method_20_code
def yX5_court : MethodName := ⟨RX5, "court", "(II)Z"⟩
abbrev cX5_otherwise : ByteArray := prog_1_method_21_code
def yX5_otherwise : MethodName := ⟨RX5, "otherwise", "(I)I"⟩
abbrev cX5_look : ByteArray := prog_1_method_22_code
def yX5_look : MethodName := ⟨RX5, "look", "(II)I"⟩
abbrev cX5_count : ByteArray := prog_1_method_23_code
def yX5_count : MethodName := ⟨RX5, "count", "(I)I"⟩
abbrev cX5_holds : ByteArray := prog_1_method_24_code
def yX5_holds : MethodName := ⟨RX5, "holds", "(II)Z"⟩
abbrev cX5_allDeeds : ByteArray := prog_1_method_25_code
def yX5_allDeeds : MethodName := ⟨RX5, "allDeeds", "()I"⟩
abbrev cX5_areDeeds : ByteArray := prog_1_method_26_code
def yX5_areDeeds : MethodName := ⟨RX5, "areDeeds", "(I)Z"⟩
abbrev cX5_isTrue : ByteArray := prog_1_method_27_code
def yX5_isTrue : MethodName := ⟨RX5, "isTrue", "(I)Z"⟩
abbrev cX5_forgedOnes : ByteArray := prog_1_method_28_code
def yX5_forgedOnes : MethodName := ⟨RX5, "forgedOnes", "()I"⟩
abbrev cX5_canBeMarked : ByteArray := prog_1_method_29_code
def yX5_canBeMarked : MethodName := ⟨RX5, "canBeMarked", "(II)Z"⟩
abbrev cX5_ownFirst : ByteArray := prog_1_method_30_code
def yX5_ownFirst : MethodName := ⟨RX5, "ownFirst", "(I)I"⟩
abbrev cX5_ownLast : ByteArray := prog_1_method_31_code
def yX5_ownLast : MethodName := ⟨RX5, "ownLast", "(I)I"⟩
abbrev cX5_hasOwnYear : ByteArray := prog_1_method_32_code
def yX5_hasOwnYear : MethodName := ⟨RX5, "hasOwnYear", "(I)Z"⟩
abbrev cX5_settle : ByteArray := prog_1_method_33_code
def yX5_settle : MethodName := ⟨RX5, "settle", "()V"⟩
abbrev cX5_disputed : ByteArray := prog_1_method_34_code
def yX5_disputed : MethodName := ⟨RX5, "disputed", "(II)I"⟩
abbrev cX5_clashes : ByteArray := prog_1_method_35_code
def yX5_clashes : MethodName := ⟨RX5, "clashes", "()I"⟩
abbrev cX5_isMisjudged : ByteArray := prog_1_method_36_code
def yX5_isMisjudged : MethodName := ⟨RX5, "isMisjudged", "(I)Z"⟩
def RX6 : String := "DeedBenchModel"
def TX6 : u_T := fun k => match k with
  | 0 => ("DeedBenchModel", "tape", "[B", true)
  | 1 => ("DeedBenchModel", "taped", "I", false)
  | 2 => ("DeedBenchModel", "wide", "I", false)
  | 3 => ("DeedBenchModel", "people", "I", false)
  | 4 => ("DeedBenchModel", "formulas", "I", false)
  | 5 => ("DeedBenchModel", "seals", "I", false)
  | 6 => ("DeedBenchModel", "deeds", "I", false)
  | 7 => ("DeedBenchModel", "lifeFrom", "[I", true)
  | 8 => ("DeedBenchModel", "lifeTo", "[I", true)
  | 9 => ("DeedBenchModel", "formulaFrom", "[I", true)
  | 10 => ("DeedBenchModel", "formulaTo", "[I", true)
  | 11 => ("DeedBenchModel", "sealFrom", "[I", true)
  | 12 => ("DeedBenchModel", "sealTo", "[I", true)
  | 13 => ("DeedBenchModel", "from", "[I", true)
  | 14 => ("DeedBenchModel", "to", "[I", true)
  | 15 => ("DeedBenchModel", "weight", "[I", true)
  | 16 => ("DeedBenchModel", "marks", "[I", true)
  | 17 => ("DeedBenchModel", "kind", "[I", true)
  | 18 => ("DeedBenchModel", "which", "[I", true)
  | 19 => ("DeedBenchModel", "letters", "[I", true)
  | 20 => ("DeedBenchModel", "words", "[B", true)
  | 21 => ("DeedBenchModel", "house", "[I", true)
  | 22 => ("DeedBenchModel", "parcels", "[I", true)
  | 23 => ("DeedBenchModel", "court", "[I", true)
  | 24 => ("DeedBenchModel", "low", "[I", true)
  | 25 => ("DeedBenchModel", "high", "[I", true)
  | 26 => ("DeedBenchModel", "isHand", "[Z", true)
  | 27 => ("DeedBenchModel", "isNaming", "[Z", true)
  | 28 => ("DeedBenchModel", "least", "[I", true)
  | 29 => ("DeedBenchModel", "most", "[I", true)
  | 30 => ("DeedBenchModel", "isFresh", "Z", false)
  | 31 => ("DeedBenchModel", "isGood", "[Z", true)
  | 32 => ("DeedBenchModel", "forged", "I", false)
  | _ => ("DeedBenchModel", "quarrel", "I", false)
def tyX6 : Nat → FieldType := fun k => match k with
  | 0 => .array .byte
  | 1 => .int
  | 2 => .int
  | 3 => .int
  | 4 => .int
  | 5 => .int
  | 6 => .int
  | 7 => .array .int
  | 8 => .array .int
  | 9 => .array .int
  | 10 => .array .int
  | 11 => .array .int
  | 12 => .array .int
  | 13 => .array .int
  | 14 => .array .int
  | 15 => .array .int
  | 16 => .array .int
  | 17 => .array .int
  | 18 => .array .int
  | 19 => .array .int
  | 20 => .array .byte
  | 21 => .array .int
  | 22 => .array .int
  | 23 => .array .int
  | 24 => .array .int
  | 25 => .array .int
  | 26 => .array .boolean
  | 27 => .array .boolean
  | 28 => .array .int
  | 29 => .array .int
  | 30 => .boolean
  | 31 => .array .boolean
  | 32 => .int
  | _ => .int
abbrev wsX60 : List Cond := u_ws RX6 TX6 34
theorem nmX6 : ∀ a, a < 34 → ∀ b, b < 34 → a ≠ b → (TX6 a).2.1 ≠ (TX6 b).2.1 := by decide +kernel
theorem tyX6_ok : ∀ k, k < 34 → parseFieldDescriptor (TX6 k).2.2.1 = some (tyX6 k) := by decide +kernel
abbrev cX6_init : ByteArray := prog_8_method_1_code
def yX6_init : MethodName := ⟨RX6, "<init>", "()V"⟩
abbrev cX6_lies : ByteArray := prog_8_method_2_code
def yX6_lies : MethodName := ⟨RX6, "lies", "(III)Z"⟩
abbrev cX6_isSpan : ByteArray := prog_8_method_3_code
def yX6_isSpan : MethodName := ⟨RX6, "isSpan", "(II)Z"⟩
abbrev cX6_has : ByteArray := prog_8_method_4_code
def yX6_has : MethodName := ⟨RX6, "has", "(II)Z"⟩
abbrev cX6_isDeed : ByteArray := prog_8_method_5_code
def yX6_isDeed : MethodName := ⟨RX6, "isDeed", "(I)Z"⟩
abbrev cX6_person : ByteArray := prog_8_method_6_code
def yX6_person : MethodName := ⟨RX6, "person", "(II)I"⟩
abbrev cX6_lived : ByteArray := prog_8_method_7_code
def yX6_lived : MethodName := ⟨RX6, "lived", "(III)Z"⟩
abbrev cX6_formula : ByteArray := prog_8_method_8_code
def yX6_formula : MethodName := ⟨RX6, "formula", "(II)I"⟩
abbrev cX6_seal : ByteArray := prog_8_method_9_code
def yX6_seal : MethodName := ⟨RX6, "seal", "(II)I"⟩
abbrev cX6_span : ByteArray := prog_8_method_10_code
def yX6_span : MethodName := ⟨RX6, "span", "(I)Z"⟩
abbrev cX6_deed : ByteArray := prog_8_method_11_code
def yX6_deed : MethodName := ⟨RX6, "deed", "(III)I"⟩
abbrev cX6_manyOf : ByteArray := prog_8_method_12_code
def yX6_manyOf : MethodName := ⟨RX6, "manyOf", "(I)I"⟩
abbrev cX6_hasMark : ByteArray := prog_8_method_13_code
def yX6_hasMark : MethodName := ⟨RX6, "hasMark", "(III)Z"⟩
abbrev cX6_mark : ByteArray := prog_8_method_14_code
def yX6_mark : MethodName := ⟨RX6, "mark", "(III)Z"⟩
abbrev cX6_narrows : ByteArray := prog_8_method_15_code
def yX6_narrows : MethodName := ⟨RX6, "narrows", "(III)V"⟩
abbrev cX6_owns : ByteArray := prog_8_method_16_code
def yX6_owns : MethodName := ⟨RX6, "owns", "()V"⟩
abbrev cX6_ups : ByteArray := prog_8_method_17_code
def yX6_ups : MethodName := ⟨RX6, "ups", "(I)V"⟩
abbrev cX6_downs : ByteArray := prog_8_method_18_code
def yX6_downs : MethodName := ⟨RX6, "downs", "(I)V"⟩
abbrev cX6_agrees : ByteArray := prog_8_method_19_code
def yX6_agrees : MethodName := ⟨RX6, "agrees", "(I)Z"⟩
abbrev cX6_weightOf : ByteArray := prog_8_method_20_code
def yX6_weightOf : MethodName := ⟨RX6, "weightOf", "(I)I"⟩
abbrev cX6_sizeOf : ByteArray := prog_8_method_21_code
def yX6_sizeOf : MethodName := ⟨RX6, "sizeOf", "(I)I"⟩
abbrev cX6_works : ByteArray := prog_8_method_22_code
def yX6_works : MethodName := ⟨RX6, "works", "()V"⟩
abbrev cX6_isSet : ByteArray := prog_8_method_23_code
def yX6_isSet : MethodName := ⟨RX6, "isSet", "(I)Z"⟩
abbrev cX6_agree : ByteArray := prog_8_method_24_code
def yX6_agree : MethodName := ⟨RX6, "agree", "(I)I"⟩
abbrev cX6_forged : ByteArray := prog_8_method_25_code
def yX6_forged : MethodName := ⟨RX6, "forged", "()I"⟩
abbrev cX6_weight : ByteArray := prog_8_method_26_code
def yX6_weight : MethodName := ⟨RX6, "weight", "(I)I"⟩
abbrev cX6_isTrue : ByteArray := prog_8_method_27_code
def yX6_isTrue : MethodName := ⟨RX6, "isTrue", "(I)Z"⟩
abbrev cX6_year : ByteArray := prog_8_method_28_code
def yX6_year : MethodName := ⟨RX6, "year", "(II)I"⟩
abbrev cX6_quarrel : ByteArray := prog_8_method_29_code
def yX6_quarrel : MethodName := ⟨RX6, "quarrel", "()I"⟩
abbrev cX6_sure : ByteArray := prog_8_method_30_code
def yX6_sure : MethodName := ⟨RX6, "sure", "(II)I"⟩
abbrev cX6_push : ByteArray := prog_8_method_31_code
def yX6_push : MethodName := ⟨RX6, "push", "(I)V"⟩
abbrev cX6_feed : ByteArray := prog_8_method_32_code
def yX6_feed : MethodName := ⟨RX6, "feed", "(IIIII)I"⟩
abbrev cX6_words : ByteArray := prog_8_method_33_code
def yX6_words : MethodName := ⟨RX6, "words", "(II)Z"⟩
abbrev cX6_alike : ByteArray := prog_8_method_34_code
def yX6_alike : MethodName := ⟨RX6, "alike", "(IIII)I"⟩
abbrev cX6_model : ByteArray := prog_8_method_35_code
def yX6_model : MethodName := ⟨RX6, "model", "(II)I"⟩
abbrev cX6_claim : ByteArray := prog_8_method_36_code
def yX6_claim : MethodName := ⟨RX6, "claim", "(III)Z"⟩
abbrev cX6_both : ByteArray := prog_8_method_37_code
def yX6_both : MethodName := ⟨RX6, "both", "(II)I"⟩
abbrev cX6_clash : ByteArray := prog_8_method_38_code
def yX6_clash : MethodName := ⟨RX6, "clash", "(II)I"⟩
abbrev cX6_court : ByteArray := prog_8_method_39_code
def yX6_court : MethodName := ⟨RX6, "court", "(II)Z"⟩
abbrev cX6_otherwise : ByteArray := prog_8_method_40_code
def yX6_otherwise : MethodName := ⟨RX6, "otherwise", "(I)I"⟩
abbrev cX6_look : ByteArray := prog_8_method_41_code
def yX6_look : MethodName := ⟨RX6, "look", "(II)I"⟩
abbrev cX6_count : ByteArray := prog_8_method_42_code
def yX6_count : MethodName := ⟨RX6, "count", "(I)I"⟩
def RJ6 : String := "java/lang/Integer"
def TJ6 : u_T := fun k => match k with
  | _ => ("", "", "", false)
def tyJ6 : Nat → FieldType := fun k => match k with
  | _ => .int
abbrev wsJ60 : List Cond := u_ws RJ6 TJ6 0
theorem nmJ6 : ∀ a, a < 0 → ∀ b, b < 0 → a ≠ b → (TJ6 a).2.1 ≠ (TJ6 b).2.1 := by decide +kernel
theorem tyJ6_ok : ∀ k, k < 0 → parseFieldDescriptor (TJ6 k).2.2.1 = some (tyJ6 k) := by decide +kernel
abbrev cJ6_compare_7cf53 : ByteArray := prog_9_method_40_code
def yJ6_compare_7cf53 : MethodName := ⟨RJ6, "compare", "(II)I"⟩
abbrev cJ6_bitCount_0f7a4 : ByteArray := prog_9_method_49_code
def yJ6_bitCount_0f7a4 : MethodName := ⟨RJ6, "bitCount", "(I)I"⟩
def RJ9 : String := "java/lang/Math"
def TJ9 : u_T := fun k => match k with
  | _ => ("", "", "", false)
def tyJ9 : Nat → FieldType := fun k => match k with
  | _ => .int
abbrev wsJ90 : List Cond := u_ws RJ9 TJ9 0
theorem nmJ9 : ∀ a, a < 0 → ∀ b, b < 0 → a ≠ b → (TJ9 a).2.1 ≠ (TJ9 b).2.1 := by decide +kernel
theorem tyJ9_ok : ∀ k, k < 0 → parseFieldDescriptor (TJ9 k).2.2.1 = some (tyJ9 k) := by decide +kernel
abbrev cJ9_max_7cf53 : ByteArray := prog_10_method_65_code
def yJ9_max_7cf53 : MethodName := ⟨RJ9, "max", "(II)I"⟩
abbrev cJ9_min_7cf53 : ByteArray := prog_10_method_69_code
def yJ9_min_7cf53 : MethodName := ⟨RJ9, "min", "(II)I"⟩
def RJ10 : String := "java/lang/System"
def TJ10 : u_T := fun k => match k with
  | _ => ("", "", "", false)
def tyJ10 : Nat → FieldType := fun k => match k with
  | _ => .int
abbrev wsJ100 : List Cond := u_ws RJ10 TJ10 0
theorem nmJ10 : ∀ a, a < 0 → ∀ b, b < 0 → a ≠ b → (TJ10 a).2.1 ≠ (TJ10 b).2.1 := by decide +kernel
theorem tyJ10_ok : ∀ k, k < 0 → parseFieldDescriptor (TJ10 k).2.2.1 = some (tyJ10 k) := by decide +kernel
def RL : String := "DeedBenchLaw"
abbrev cL_law : ByteArray := code
def yL_law : MethodName := ⟨RL, "law", "([I)Z"⟩
abbrev vwCl : List vw_C := [(RX0, TX0, 1), (RX1, TX1, 4), (RX2, TX2, 3), (RX3, TX3, 11), (RX4, TX4, 8), (RX5, TX5, 13), (RX6, TX6, 34)]
