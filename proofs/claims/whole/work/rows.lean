section
-- ===== PART A: goes FIRST, ahead of the names: the tables' words, and 'selects' of the private methods out of them =====
/-- a private method of a class that the tables say can be made, by its rows of tables_1 -/
def lw_okq (q : MethodName × Nat) : Prop := (q.1.cls ≠ "java/lang/invoke/MethodHandle" ∧ q.1.cls ≠ "java/lang/invoke/VarHandle") ∧ Cond.instantiable q.1.cls q.2 ∈ tables_1 ∧ Cond.privateMethod q.1 ∈ tables_1 ∧ Cond.instanceMethod q.1 ∈ tables_1
theorem lw_p0 : lw_okq (⟨"DeedBench", "canBeMarked", "(II)Z"⟩, 13) := ⟨⟨by decide +kernel, by decide +kernel⟩, List.mem_of_getElem? (i := 12) (by decide +kernel), List.mem_of_getElem? (i := 242) (by decide +kernel), List.mem_of_getElem? (i := 243) (by decide +kernel)⟩
theorem lw_p1 : lw_okq (⟨"DeedBench", "areDeeds", "(I)Z"⟩, 13) := ⟨⟨by decide +kernel, by decide +kernel⟩, List.mem_of_getElem? (i := 12) (by decide +kernel), List.mem_of_getElem? (i := 274) (by decide +kernel), List.mem_of_getElem? (i := 275) (by decide +kernel)⟩
theorem lw_p2 : lw_okq (⟨"DeedBench", "allDeeds", "()I"⟩, 13) := ⟨⟨by decide +kernel, by decide +kernel⟩, List.mem_of_getElem? (i := 12) (by decide +kernel), List.mem_of_getElem? (i := 278) (by decide +kernel), List.mem_of_getElem? (i := 279) (by decide +kernel)⟩
theorem lw_p3 : lw_okq (⟨"DeedBench", "settle", "()V"⟩, 13) := ⟨⟨by decide +kernel, by decide +kernel⟩, List.mem_of_getElem? (i := 12) (by decide +kernel), List.mem_of_getElem? (i := 282) (by decide +kernel), List.mem_of_getElem? (i := 283) (by decide +kernel)⟩
theorem lw_p4 : lw_okq (⟨"DeedBench", "ownFirst", "(I)I"⟩, 13) := ⟨⟨by decide +kernel, by decide +kernel⟩, List.mem_of_getElem? (i := 12) (by decide +kernel), List.mem_of_getElem? (i := 286) (by decide +kernel), List.mem_of_getElem? (i := 287) (by decide +kernel)⟩
theorem lw_p5 : lw_okq (⟨"DeedBench", "ownLast", "(I)I"⟩, 13) := ⟨⟨by decide +kernel, by decide +kernel⟩, List.mem_of_getElem? (i := 12) (by decide +kernel), List.mem_of_getElem? (i := 296) (by decide +kernel), List.mem_of_getElem? (i := 297) (by decide +kernel)⟩
theorem lw_p6 : lw_okq (⟨"DeedBench$Timeline", "firstBroken", "(I)I"⟩, 11) := ⟨⟨by decide +kernel, by decide +kernel⟩, List.mem_of_getElem? (i := 53) (by decide +kernel), List.mem_of_getElem? (i := 331) (by decide +kernel), List.mem_of_getElem? (i := 332) (by decide +kernel)⟩
theorem lw_p7 : lw_okq (⟨"DeedBench$Timeline", "lowerOnce", "(I)Z"⟩, 11) := ⟨⟨by decide +kernel, by decide +kernel⟩, List.mem_of_getElem? (i := 53) (by decide +kernel), List.mem_of_getElem? (i := 336) (by decide +kernel), List.mem_of_getElem? (i := 337) (by decide +kernel)⟩
theorem lw_p8 : lw_okq (⟨"DeedBench$Search", "keepBetter", "(I)V"⟩, 4) := ⟨⟨by decide +kernel, by decide +kernel⟩, List.mem_of_getElem? (i := 100) (by decide +kernel), List.mem_of_getElem? (i := 343) (by decide +kernel), List.mem_of_getElem? (i := 344) (by decide +kernel)⟩
theorem lw_p9 : lw_okq (⟨"DeedBench$Timeline", "raiseOnce", "(I)Z"⟩, 11) := ⟨⟨by decide +kernel, by decide +kernel⟩, List.mem_of_getElem? (i := 53) (by decide +kernel), List.mem_of_getElem? (i := 355) (by decide +kernel), List.mem_of_getElem? (i := 356) (by decide +kernel)⟩
theorem lw_p10 : lw_okq (⟨"DeedBench", "forgedOnes", "()I"⟩, 13) := ⟨⟨by decide +kernel, by decide +kernel⟩, List.mem_of_getElem? (i := 12) (by decide +kernel), List.mem_of_getElem? (i := 364) (by decide +kernel), List.mem_of_getElem? (i := 365) (by decide +kernel)⟩
theorem lw_p11 : lw_okq (⟨"DeedBench", "isTrue", "(I)Z"⟩, 13) := ⟨⟨by decide +kernel, by decide +kernel⟩, List.mem_of_getElem? (i := 12) (by decide +kernel), List.mem_of_getElem? (i := 377) (by decide +kernel), List.mem_of_getElem? (i := 378) (by decide +kernel)⟩
theorem lw_p12 : lw_okq (⟨"DeedBench$Writing", "compareWith", "(II)V"⟩, 8) := ⟨⟨by decide +kernel, by decide +kernel⟩, List.mem_of_getElem? (i := 120) (by decide +kernel), List.mem_of_getElem? (i := 421) (by decide +kernel), List.mem_of_getElem? (i := 422) (by decide +kernel)⟩
theorem lw_p13 : lw_okq (⟨"DeedBench$Writing", "alike", "(IIII)I"⟩, 8) := ⟨⟨by decide +kernel, by decide +kernel⟩, List.mem_of_getElem? (i := 120) (by decide +kernel), List.mem_of_getElem? (i := 425) (by decide +kernel), List.mem_of_getElem? (i := 426) (by decide +kernel)⟩
theorem lw_p14 : lw_okq (⟨"DeedBench", "disputed", "(II)I"⟩, 13) := ⟨⟨by decide +kernel, by decide +kernel⟩, List.mem_of_getElem? (i := 12) (by decide +kernel), List.mem_of_getElem? (i := 438) (by decide +kernel), List.mem_of_getElem? (i := 439) (by decide +kernel)⟩
theorem lw_p15 : lw_okq (⟨"DeedBench", "isMisjudged", "(I)Z"⟩, 13) := ⟨⟨by decide +kernel, by decide +kernel⟩, List.mem_of_getElem? (i := 12) (by decide +kernel), List.mem_of_getElem? (i := 450) (by decide +kernel), List.mem_of_getElem? (i := 451) (by decide +kernel)⟩
def lw_privs_1 : List (MethodName × Nat) := [(⟨"DeedBench", "canBeMarked", "(II)Z"⟩, 13), (⟨"DeedBench", "areDeeds", "(I)Z"⟩, 13), (⟨"DeedBench", "allDeeds", "()I"⟩, 13), (⟨"DeedBench", "settle", "()V"⟩, 13), (⟨"DeedBench", "ownFirst", "(I)I"⟩, 13), (⟨"DeedBench", "ownLast", "(I)I"⟩, 13), (⟨"DeedBench$Timeline", "firstBroken", "(I)I"⟩, 11), (⟨"DeedBench$Timeline", "lowerOnce", "(I)Z"⟩, 11), (⟨"DeedBench$Search", "keepBetter", "(I)V"⟩, 4), (⟨"DeedBench$Timeline", "raiseOnce", "(I)Z"⟩, 11), (⟨"DeedBench", "forgedOnes", "()I"⟩, 13), (⟨"DeedBench", "isTrue", "(I)Z"⟩, 13), (⟨"DeedBench$Writing", "compareWith", "(II)V"⟩, 8), (⟨"DeedBench$Writing", "alike", "(IIII)I"⟩, 8), (⟨"DeedBench", "disputed", "(II)I"⟩, 13), (⟨"DeedBench", "isMisjudged", "(I)Z"⟩, 13)]
theorem lw_r1 : ∀ q ∈ lw_privs_1, lw_okq q := List.forall_mem_cons.mpr ⟨lw_p0, List.forall_mem_cons.mpr ⟨lw_p1, List.forall_mem_cons.mpr ⟨lw_p2, List.forall_mem_cons.mpr ⟨lw_p3, List.forall_mem_cons.mpr ⟨lw_p4, List.forall_mem_cons.mpr ⟨lw_p5, List.forall_mem_cons.mpr ⟨lw_p6, List.forall_mem_cons.mpr ⟨lw_p7, List.forall_mem_cons.mpr ⟨lw_p8, List.forall_mem_cons.mpr ⟨lw_p9, List.forall_mem_cons.mpr ⟨lw_p10, List.forall_mem_cons.mpr ⟨lw_p11, List.forall_mem_cons.mpr ⟨lw_p12, List.forall_mem_cons.mpr ⟨lw_p13, List.forall_mem_cons.mpr ⟨lw_p14, List.forall_mem_cons.mpr ⟨lw_p15, fun _ h => absurd h List.not_mem_nil⟩⟩⟩⟩⟩⟩⟩⟩⟩⟩⟩⟩⟩⟩⟩⟩
theorem lw_p16 : lw_okq (⟨"DeedBench", "hasOwnYear", "(I)Z"⟩, 13) := ⟨⟨by decide +kernel, by decide +kernel⟩, List.mem_of_getElem? (i := 12) (by decide +kernel), List.mem_of_getElem? (i := 459) (by decide +kernel), List.mem_of_getElem? (i := 460) (by decide +kernel)⟩
theorem lw_p17 : lw_okq (⟨"DeedBench", "clashes", "()I"⟩, 13) := ⟨⟨by decide +kernel, by decide +kernel⟩, List.mem_of_getElem? (i := 12) (by decide +kernel), List.mem_of_getElem? (i := 468) (by decide +kernel), List.mem_of_getElem? (i := 469) (by decide +kernel)⟩
theorem lw_p18 : lw_okq (⟨"DeedBenchModel", "isDeed", "(I)Z"⟩, 34) := ⟨⟨by decide +kernel, by decide +kernel⟩, List.mem_of_getElem? (i := 472) (by decide +kernel), List.mem_of_getElem? (i := 617) (by decide +kernel), List.mem_of_getElem? (i := 618) (by decide +kernel)⟩
theorem lw_p19 : lw_okq (⟨"DeedBenchModel", "manyOf", "(I)I"⟩, 34) := ⟨⟨by decide +kernel, by decide +kernel⟩, List.mem_of_getElem? (i := 472) (by decide +kernel), List.mem_of_getElem? (i := 621) (by decide +kernel), List.mem_of_getElem? (i := 622) (by decide +kernel)⟩
theorem lw_p20 : lw_okq (⟨"DeedBenchModel", "hasMark", "(III)Z"⟩, 34) := ⟨⟨by decide +kernel, by decide +kernel⟩, List.mem_of_getElem? (i := 472) (by decide +kernel), List.mem_of_getElem? (i := 625) (by decide +kernel), List.mem_of_getElem? (i := 626) (by decide +kernel)⟩
theorem lw_p21 : lw_okq (⟨"DeedBenchModel", "isSet", "(I)Z"⟩, 34) := ⟨⟨by decide +kernel, by decide +kernel⟩, List.mem_of_getElem? (i := 472) (by decide +kernel), List.mem_of_getElem? (i := 633) (by decide +kernel), List.mem_of_getElem? (i := 634) (by decide +kernel)⟩
theorem lw_p22 : lw_okq (⟨"DeedBenchModel", "works", "()V"⟩, 34) := ⟨⟨by decide +kernel, by decide +kernel⟩, List.mem_of_getElem? (i := 472) (by decide +kernel), List.mem_of_getElem? (i := 637) (by decide +kernel), List.mem_of_getElem? (i := 638) (by decide +kernel)⟩
theorem lw_p23 : lw_okq (⟨"DeedBenchModel", "owns", "()V"⟩, 34) := ⟨⟨by decide +kernel, by decide +kernel⟩, List.mem_of_getElem? (i := 472) (by decide +kernel), List.mem_of_getElem? (i := 641) (by decide +kernel), List.mem_of_getElem? (i := 642) (by decide +kernel)⟩
theorem lw_p24 : lw_okq (⟨"DeedBenchModel", "narrows", "(III)V"⟩, 34) := ⟨⟨by decide +kernel, by decide +kernel⟩, List.mem_of_getElem? (i := 472) (by decide +kernel), List.mem_of_getElem? (i := 645) (by decide +kernel), List.mem_of_getElem? (i := 646) (by decide +kernel)⟩
theorem lw_p25 : lw_okq (⟨"DeedBenchModel", "agrees", "(I)Z"⟩, 34) := ⟨⟨by decide +kernel, by decide +kernel⟩, List.mem_of_getElem? (i := 472) (by decide +kernel), List.mem_of_getElem? (i := 649) (by decide +kernel), List.mem_of_getElem? (i := 650) (by decide +kernel)⟩
theorem lw_p26 : lw_okq (⟨"DeedBenchModel", "ups", "(I)V"⟩, 34) := ⟨⟨by decide +kernel, by decide +kernel⟩, List.mem_of_getElem? (i := 472) (by decide +kernel), List.mem_of_getElem? (i := 656) (by decide +kernel), List.mem_of_getElem? (i := 657) (by decide +kernel)⟩
theorem lw_p27 : lw_okq (⟨"DeedBenchModel", "weightOf", "(I)I"⟩, 34) := ⟨⟨by decide +kernel, by decide +kernel⟩, List.mem_of_getElem? (i := 472) (by decide +kernel), List.mem_of_getElem? (i := 663) (by decide +kernel), List.mem_of_getElem? (i := 664) (by decide +kernel)⟩
theorem lw_p28 : lw_okq (⟨"DeedBenchModel", "downs", "(I)V"⟩, 34) := ⟨⟨by decide +kernel, by decide +kernel⟩, List.mem_of_getElem? (i := 472) (by decide +kernel), List.mem_of_getElem? (i := 667) (by decide +kernel), List.mem_of_getElem? (i := 668) (by decide +kernel)⟩
theorem lw_p29 : lw_okq (⟨"DeedBenchModel", "isTrue", "(I)Z"⟩, 34) := ⟨⟨by decide +kernel, by decide +kernel⟩, List.mem_of_getElem? (i := 472) (by decide +kernel), List.mem_of_getElem? (i := 683) (by decide +kernel), List.mem_of_getElem? (i := 684) (by decide +kernel)⟩
theorem lw_p30 : lw_okq (⟨"DeedBenchModel", "push", "(I)V"⟩, 34) := ⟨⟨by decide +kernel, by decide +kernel⟩, List.mem_of_getElem? (i := 472) (by decide +kernel), List.mem_of_getElem? (i := 699) (by decide +kernel), List.mem_of_getElem? (i := 700) (by decide +kernel)⟩
theorem lw_p31 : lw_okq (⟨"DeedBenchModel", "alike", "(IIII)I"⟩, 34) := ⟨⟨by decide +kernel, by decide +kernel⟩, List.mem_of_getElem? (i := 472) (by decide +kernel), List.mem_of_getElem? (i := 711) (by decide +kernel), List.mem_of_getElem? (i := 712) (by decide +kernel)⟩
def lw_privs_2 : List (MethodName × Nat) := [(⟨"DeedBench", "hasOwnYear", "(I)Z"⟩, 13), (⟨"DeedBench", "clashes", "()I"⟩, 13), (⟨"DeedBenchModel", "isDeed", "(I)Z"⟩, 34), (⟨"DeedBenchModel", "manyOf", "(I)I"⟩, 34), (⟨"DeedBenchModel", "hasMark", "(III)Z"⟩, 34), (⟨"DeedBenchModel", "isSet", "(I)Z"⟩, 34), (⟨"DeedBenchModel", "works", "()V"⟩, 34), (⟨"DeedBenchModel", "owns", "()V"⟩, 34), (⟨"DeedBenchModel", "narrows", "(III)V"⟩, 34), (⟨"DeedBenchModel", "agrees", "(I)Z"⟩, 34), (⟨"DeedBenchModel", "ups", "(I)V"⟩, 34), (⟨"DeedBenchModel", "weightOf", "(I)I"⟩, 34), (⟨"DeedBenchModel", "downs", "(I)V"⟩, 34), (⟨"DeedBenchModel", "isTrue", "(I)Z"⟩, 34), (⟨"DeedBenchModel", "push", "(I)V"⟩, 34), (⟨"DeedBenchModel", "alike", "(IIII)I"⟩, 34)]
theorem lw_r2 : ∀ q ∈ lw_privs_2, lw_okq q := List.forall_mem_cons.mpr ⟨lw_p16, List.forall_mem_cons.mpr ⟨lw_p17, List.forall_mem_cons.mpr ⟨lw_p18, List.forall_mem_cons.mpr ⟨lw_p19, List.forall_mem_cons.mpr ⟨lw_p20, List.forall_mem_cons.mpr ⟨lw_p21, List.forall_mem_cons.mpr ⟨lw_p22, List.forall_mem_cons.mpr ⟨lw_p23, List.forall_mem_cons.mpr ⟨lw_p24, List.forall_mem_cons.mpr ⟨lw_p25, List.forall_mem_cons.mpr ⟨lw_p26, List.forall_mem_cons.mpr ⟨lw_p27, List.forall_mem_cons.mpr ⟨lw_p28, List.forall_mem_cons.mpr ⟨lw_p29, List.forall_mem_cons.mpr ⟨lw_p30, List.forall_mem_cons.mpr ⟨lw_p31, fun _ h => absurd h List.not_mem_nil⟩⟩⟩⟩⟩⟩⟩⟩⟩⟩⟩⟩⟩⟩⟩⟩
theorem lw_p32 : lw_okq (⟨"DeedBenchModel", "both", "(II)I"⟩, 34) := ⟨⟨by decide +kernel, by decide +kernel⟩, List.mem_of_getElem? (i := 472) (by decide +kernel), List.mem_of_getElem? (i := 723) (by decide +kernel), List.mem_of_getElem? (i := 724) (by decide +kernel)⟩
def lw_privs_3 : List (MethodName × Nat) := [(⟨"DeedBenchModel", "both", "(II)I"⟩, 34)]
theorem lw_r3 : ∀ q ∈ lw_privs_3, lw_okq q := List.forall_mem_cons.mpr ⟨lw_p32, fun _ h => absurd h List.not_mem_nil⟩
def lw_privs : List (MethodName × Nat) := lw_privs_1 ++ (lw_privs_2 ++ (lw_privs_3))
def lw_tbl : List Cond := k2_sels lw_privs ++ tables_1
theorem lw_privs_ok : ∀ q ∈ lw_privs, lw_okq q := by
  show ∀ q ∈ lw_privs_1 ++ (lw_privs_2 ++ (lw_privs_3)), lw_okq q
  exact List.forall_mem_append.mpr ⟨lw_r1, List.forall_mem_append.mpr ⟨lw_r2, lw_r3⟩⟩
/-! ===== BEGIN words of one list among another's, by their places ===== -/
theorem goodIn_r {big : List Cond} (ws : List Cond) (ps : List Nat) (hp : ws = ps.filterMap (fun i => big[i]?)) (h : ws.all goodWord = true) : GoodIn big ws := by
  intro w hw
  have h1 := List.all_eq_true.mp h w hw
  rw [hp] at hw
  obtain ⟨i, -, hi⟩ := List.mem_filterMap.mp hw
  have hm : w ∈ big := by first | exact List.mem_of_getElem? hi | exact List.getElem?_mem hi
  exact ⟨hm, good_of_word h1⟩
theorem goodIn_app {big a b : List Cond} (ha : GoodIn big a) (hb : GoodIn big b) : GoodIn big (a ++ b) := fun w h => (List.mem_append.mp h).elim (ha w) (hb w)
theorem goodIn_ca {big a b : List Cond} {c : Cond} (ha : GoodIn big (c :: a)) (hb : GoodIn big b) : GoodIn big (c :: (a ++ b)) := fun w h => (List.mem_cons.mp h).elim (fun e => ha w (List.mem_cons.mpr (Or.inl e))) (fun h => (List.mem_append.mp h).elim (fun h => ha w (List.mem_cons.mpr (Or.inr h))) (hb w))
theorem goodIn_sub {big ws : List Cond} (hm : ∀ w ∈ ws, w ∈ big) (h : ws.all goodWord = true) : GoodIn big ws := fun w hw => ⟨hm w hw, good_of_word (List.all_eq_true.mp h w hw)⟩
/-! ===== END ===== -/

/-! ===== BEGIN printed: names, fields, word lists, decode rows ===== -/
def RX0 : String := "DeedBench$Marks"
def TX0 : u_T := fun k => match k with
  | _ => ("DeedBench$Marks", "sets", "[I", true)
def tyX0 : Nat → FieldType := fun k => match k with
  | _ => .array .int
abbrev wsX00 : List Cond := u_ws RX0 TX0 1
theorem nmX0 : ∀ a, a < 1 → ∀ b, b < 1 → a ≠ b → (TX0 a).2.1 ≠ (TX0 b).2.1 := by decide +kernel
theorem tyX0_ok : ∀ k, k < 1 → parseFieldDescriptor (TX0 k).2.2.1 = some (tyX0 k) := by decide +kernel
abbrev cX0_init : ByteArray := prog_2_method_1_code
def yX0_init : MethodName := ⟨RX0, "<init>", "()V"⟩
abbrev cX0_isPlace : ByteArray := prog_2_method_2_code
def yX0_isPlace : MethodName := ⟨RX0, "isPlace", "(II)Z"⟩
abbrev cX0_of : ByteArray := prog_2_method_3_code
def yX0_of : MethodName := ⟨RX0, "of", "(II)I"⟩
abbrev cX0_many : ByteArray := prog_2_method_4_code
def yX0_many : MethodName := ⟨RX0, "many", "(I)I"⟩
abbrev cX0_put : ByteArray := prog_2_method_5_code
def yX0_put : MethodName := ⟨RX0, "put", "(III)Z"⟩
abbrev cX0_sharingHand : ByteArray := prog_2_method_6_code
def yX0_sharingHand : MethodName := ⟨RX0, "sharingHand", "(I)I"⟩
def RX1 : String := "DeedBench$Search"
def TX1 : u_T := fun k => match k with
  | 0 => ("DeedBench$Search", "timeline", "LDeedBench$Timeline;", true)
  | 1 => ("DeedBench$Search", "weights", "[I", true)
  | 2 => ("DeedBench$Search", "best", "I", false)
  | _ => ("DeedBench$Search", "bestWeight", "I", false)
def tyX1 : Nat → FieldType := fun k => match k with
  | 0 => .object "DeedBench$Timeline"
  | 1 => .array .int
  | 2 => .int
  | _ => .int
abbrev wsX10 : List Cond := u_ws RX1 TX1 4
theorem nmX1 : ∀ a, a < 4 → ∀ b, b < 4 → a ≠ b → (TX1 a).2.1 ≠ (TX1 b).2.1 := by decide +kernel
theorem tyX1_ok : ∀ k, k < 4 → parseFieldDescriptor (TX1 k).2.2.1 = some (tyX1 k) := by decide +kernel
abbrev cX1_init : ByteArray := prog_3_method_1_code
def yX1_init : MethodName := ⟨RX1, "<init>", "(LDeedBench$Timeline;)V"⟩
abbrev cX1_lightest : ByteArray := prog_3_method_2_code
def yX1_lightest : MethodName := ⟨RX1, "lightest", "(I)I"⟩
abbrev cX1_weigh : ByteArray := prog_3_method_3_code
def yX1_weigh : MethodName := ⟨RX1, "weigh", "(I)I"⟩
abbrev cX1_forge : ByteArray := prog_3_method_4_code
def yX1_forge : MethodName := ⟨RX1, "forge", "(LDeedBench$Search;IIII)V"⟩
abbrev cX1_keepBetter : ByteArray := prog_3_method_5_code
def yX1_keepBetter : MethodName := ⟨RX1, "keepBetter", "(I)V"⟩
def RX2 : String := "DeedBench$Spans"
def TX2 : u_T := fun k => match k with
  | 0 => ("DeedBench$Spans", "from", "[I", true)
  | 1 => ("DeedBench$Spans", "to", "[I", true)
  | _ => ("DeedBench$Spans", "size", "I", false)
def tyX2 : Nat → FieldType := fun k => match k with
  | 0 => .array .int
  | 1 => .array .int
  | _ => .int
abbrev wsX20 : List Cond := u_ws RX2 TX2 3
theorem nmX2 : ∀ a, a < 3 → ∀ b, b < 3 → a ≠ b → (TX2 a).2.1 ≠ (TX2 b).2.1 := by decide +kernel
theorem tyX2_ok : ∀ k, k < 3 → parseFieldDescriptor (TX2 k).2.2.1 = some (tyX2 k) := by decide +kernel
abbrev cX2_init : ByteArray := prog_4_method_1_code
def yX2_init : MethodName := ⟨RX2, "<init>", "(I)V"⟩
abbrev cX2_areYears : ByteArray := prog_4_method_2_code
def yX2_areYears : MethodName := ⟨RX2, "areYears", "(II)Z"⟩
abbrev cX2_has : ByteArray := prog_4_method_3_code
def yX2_has : MethodName := ⟨RX2, "has", "(I)Z"⟩
abbrev cX2_add : ByteArray := prog_4_method_4_code
def yX2_add : MethodName := ⟨RX2, "add", "(II)I"⟩
abbrev cX2_change : ByteArray := prog_4_method_5_code
def yX2_change : MethodName := ⟨RX2, "change", "(III)Z"⟩
abbrev cX2_latestStart : ByteArray := prog_4_method_6_code
def yX2_latestStart : MethodName := ⟨RX2, "latestStart", "(II)I"⟩
abbrev cX2_earliestEnd : ByteArray := prog_4_method_7_code
def yX2_earliestEnd : MethodName := ⟨RX2, "earliestEnd", "(II)I"⟩
def RX3 : String := "DeedBench$Timeline"
def TX3 : u_T := fun k => match k with
  | 0 => ("DeedBench$Timeline", "first", "[I", true)
  | 1 => ("DeedBench$Timeline", "last", "[I", true)
  | 2 => ("DeedBench$Timeline", "near", "[I", true)
  | 3 => ("DeedBench$Timeline", "named", "[I", true)
  | 4 => ("DeedBench$Timeline", "least", "[I", true)
  | 5 => ("DeedBench$Timeline", "greatest", "[I", true)
  | 6 => ("DeedBench$Timeline", "latest", "[I", true)
  | 7 => ("DeedBench$Timeline", "before", "[I", true)
  | 8 => ("DeedBench$Timeline", "cause", "[I", true)
  | 9 => ("DeedBench$Timeline", "w", "I", false)
  | _ => ("DeedBench$Timeline", "broken", "I", false)
def tyX3 : Nat → FieldType := fun k => match k with
  | 0 => .array .int
  | 1 => .array .int
  | 2 => .array .int
  | 3 => .array .int
  | 4 => .array .int
  | 5 => .array .int
  | 6 => .array .int
  | 7 => .array .int
  | 8 => .array .int
  | 9 => .int
  | _ => .int
abbrev wsX30 : List Cond := u_ws RX3 TX3 11
theorem nmX3 : ∀ a, a < 11 → ∀ b, b < 11 → a ≠ b → (TX3 a).2.1 ≠ (TX3 b).2.1 := by decide +kernel
theorem tyX3_ok : ∀ k, k < 11 → parseFieldDescriptor (TX3 k).2.2.1 = some (tyX3 k) := by decide +kernel
abbrev cX3_init : ByteArray := prog_5_method_1_code
def yX3_init : MethodName := ⟨RX3, "<init>", "()V"⟩
abbrev cX3_roundsToBreak : ByteArray := prog_5_method_2_code
def yX3_roundsToBreak : MethodName := ⟨RX3, "roundsToBreak", "(I)I"⟩
abbrev cX3_firstBroken : ByteArray := prog_5_method_3_code
def yX3_firstBroken : MethodName := ⟨RX3, "firstBroken", "(I)I"⟩
abbrev cX3_lowerOnce : ByteArray := prog_5_method_4_code
def yX3_lowerOnce : MethodName := ⟨RX3, "lowerOnce", "(I)Z"⟩
abbrev cX3_raiseOnce : ByteArray := prog_5_method_5_code
def yX3_raiseOnce : MethodName := ⟨RX3, "raiseOnce", "(I)Z"⟩
abbrev cX3_conflictIn : ByteArray := prog_5_method_6_code
def yX3_conflictIn : MethodName := ⟨RX3, "conflictIn", "(I)I"⟩
abbrev cX3_quarrelIn : ByteArray := prog_5_method_7_code
def yX3_quarrelIn : MethodName := ⟨RX3, "quarrelIn", "(I)I"⟩
abbrev cX3_keepYears : ByteArray := prog_5_method_8_code
def yX3_keepYears : MethodName := ⟨RX3, "keepYears", "(I)V"⟩
def RX4 : String := "DeedBench$Writing"
def TX4 : u_T := fun k => match k with
  | 0 => ("DeedBench$Writing", "tape", "[I", true)
  | 1 => ("DeedBench$Writing", "letters", "[I", true)
  | 2 => ("DeedBench$Writing", "sizes", "[I", true)
  | 3 => ("DeedBench$Writing", "tapeSize", "I", false)
  | 4 => ("DeedBench$Writing", "modelDeed", "I", false)
  | 5 => ("DeedBench$Writing", "modelLetters", "I", false)
  | 6 => ("DeedBench$Writing", "modelHere", "I", false)
  | _ => ("DeedBench$Writing", "modelThere", "I", false)
def tyX4 : Nat → FieldType := fun k => match k with
  | 0 => .array .int
  | 1 => .array .int
  | 2 => .array .int
  | 3 => .int
  | 4 => .int
  | 5 => .int
  | 6 => .int
  | _ => .int
abbrev wsX40 : List Cond := u_ws RX4 TX4 8
theorem nmX4 : ∀ a, a < 8 → ∀ b, b < 8 → a ≠ b → (TX4 a).2.1 ≠ (TX4 b).2.1 := by decide +kernel
theorem tyX4_ok : ∀ k, k < 8 → parseFieldDescriptor (TX4 k).2.2.1 = some (tyX4 k) := by decide +kernel
abbrev cX4_init : ByteArray := prog_6_method_1_code
def yX4_init : MethodName := ⟨RX4, "<init>", "()V"⟩
abbrev cX4_putBytes : ByteArray := prog_6_method_2_code
def yX4_putBytes : MethodName := ⟨RX4, "putBytes", "(I)V"⟩
abbrev cX4_take : ByteArray := prog_6_method_3_code
def yX4_take : MethodName := ⟨RX4, "take", "(II)Z"⟩
abbrev cX4_findModel : ByteArray := prog_6_method_4_code
def yX4_findModel : MethodName := ⟨RX4, "findModel", "(I)V"⟩
abbrev cX4_compareWith : ByteArray := prog_6_method_5_code
def yX4_compareWith : MethodName := ⟨RX4, "compareWith", "(II)V"⟩
abbrev cX4_alike : ByteArray := prog_6_method_6_code
def yX4_alike : MethodName := ⟨RX4, "alike", "(IIII)I"⟩
def RX5 : String := "DeedBench"
def TX5 : u_T := fun k => match k with
  | 0 => ("DeedBench", "people", "LDeedBench$Spans;", true)
  | 1 => ("DeedBench", "formulas", "LDeedBench$Spans;", true)
  | 2 => ("DeedBench", "seals", "LDeedBench$Spans;", true)
  | 3 => ("DeedBench", "deeds", "LDeedBench$Spans;", true)
  | 4 => ("DeedBench", "marks", "LDeedBench$Marks;", true)
  | 5 => ("DeedBench", "timeline", "LDeedBench$Timeline;", true)
  | 6 => ("DeedBench", "search", "LDeedBench$Search;", true)
  | 7 => ("DeedBench", "writing", "LDeedBench$Writing;", true)
  | 8 => ("DeedBench", "house", "[I", true)
  | 9 => ("DeedBench", "parcels", "[I", true)
  | 10 => ("DeedBench", "verdict", "[I", true)
  | 11 => ("DeedBench", "trueOnes", "I", false)
  | _ => ("DeedBench", "settled", "Z", false)
def tyX5 : Nat → FieldType := fun k => match k with
  | 0 => .object "DeedBench$Spans"
  | 1 => .object "DeedBench$Spans"
  | 2 => .object "DeedBench$Spans"
  | 3 => .object "DeedBench$Spans"
  | 4 => .object "DeedBench$Marks"
  | 5 => .object "DeedBench$Timeline"
  | 6 => .object "DeedBench$Search"
  | 7 => .object "DeedBench$Writing"
  | 8 => .array .int
  | 9 => .array .int
  | 10 => .array .int
  | 11 => .int
  | _ => .boolean
abbrev wsX50 : List Cond := u_ws RX5 TX5 13
theorem nmX5 : ∀ a, a < 13 → ∀ b, b < 13 → a ≠ b → (TX5 a).2.1 ≠ (TX5 b).2.1 := by decide +kernel
theorem tyX5_ok : ∀ k, k < 13 → parseFieldDescriptor (TX5 k).2.2.1 = some (tyX5 k) := by decide +kernel
abbrev cX5_init : ByteArray := prog_1_method_1_code
def yX5_init : MethodName := ⟨RX5, "<init>", "()V"⟩
abbrev cX5_person : ByteArray := prog_1_method_2_code
def yX5_person : MethodName := ⟨RX5, "person", "(II)I"⟩
abbrev cX5_lived : ByteArray := prog_1_method_3_code
def yX5_lived : MethodName := ⟨RX5, "lived", "(III)Z"⟩
abbrev cX5_formula : ByteArray := prog_1_method_4_code
def yX5_formula : MethodName := ⟨RX5, "formula", "(II)I"⟩
abbrev cX5_seal : ByteArray := prog_1_method_5_code
def yX5_seal : MethodName := ⟨RX5, "seal", "(II)I"⟩
abbrev cX5_span : ByteArray := prog_1_method_6_code
def yX5_span : MethodName := ⟨RX5, "span", "(I)Z"⟩
abbrev cX5_deed : ByteArray := prog_1_method_7_code
def yX5_deed : MethodName := ⟨RX5, "deed", "(III)I"⟩
abbrev cX5_mark : ByteArray := prog_1_method_8_code
def yX5_mark : MethodName := ⟨RX5, "mark", "(III)Z"⟩
abbrev cX5_agree : ByteArray := prog_1_method_9_code
def yX5_agree : MethodName := ⟨RX5, "agree", "(I)I"⟩
abbrev cX5_forged : ByteArray := prog_1_method_10_code
def yX5_forged : MethodName := ⟨RX5, "forged", "()I"⟩
abbrev cX5_weight : ByteArray := prog_1_method_11_code
def yX5_weight : MethodName := ⟨RX5, "weight", "(I)I"⟩
abbrev cX5_year : ByteArray := prog_1_method_12_code
def yX5_year : MethodName := ⟨RX5, "year", "(II)I"⟩
abbrev cX5_quarrel : ByteArray := prog_1_method_13_code
def yX5_quarrel : MethodName := ⟨RX5, "quarrel", "()I"⟩
abbrev cX5_sure : ByteArray := prog_1_method_14_code
def yX5_sure : MethodName := ⟨RX5, "sure", "(II)I"⟩
abbrev cX5_feed : ByteArray := prog_1_method_15_code
def yX5_feed : MethodName := ⟨RX5, "feed", "(IIIII)I"⟩
abbrev cX5_words : ByteArray := prog_1_method_16_code
def yX5_words : MethodName := ⟨RX5, "words", "(II)Z"⟩
abbrev cX5_model : ByteArray := prog_1_method_17_code
def yX5_model : MethodName := ⟨RX5, "model", "(II)I"⟩
abbrev cX5_claim : ByteArray := prog_1_method_18_code
def yX5_claim : MethodName := ⟨RX5, "claim", "(III)Z"⟩
abbrev cX5_clash : ByteArray := prog_1_method_19_code
def yX5_clash : MethodName := ⟨RX5, "clash", "(II)I"⟩
abbrev cX5_court : ByteArray := prog_1_method_20_code
def yX5_court : MethodName := ⟨RX5, "court", "(II)Z"⟩
abbrev cX5_otherwise : ByteArray := prog_1_method_21_code
def yX5_otherwise : MethodName := ⟨RX5, "otherwise", "(I)I"⟩
abbrev cX5_look : ByteArray := prog_1_method_22_code
def yX5_look : MethodName := ⟨RX5, "look", "(II)I"⟩
abbrev cX5_count : ByteArray := prog_1_method_23_code
def yX5_count : MethodName := ⟨RX5, "count", "(I)I"⟩
abbrev cX5_holds : ByteArray := prog_1_method_24_code
def yX5_holds : MethodName := ⟨RX5, "holds", "(II)Z"⟩
abbrev cX5_allDeeds : ByteArray := prog_1_method_25_code
def yX5_allDeeds : MethodName := ⟨RX5, "allDeeds", "()I"⟩
abbrev cX5_areDeeds : ByteArray := prog_1_method_26_code
def yX5_areDeeds : MethodName := ⟨RX5, "areDeeds", "(I)Z"⟩
abbrev cX5_isTrue : ByteArray := prog_1_method_27_code
def yX5_isTrue : MethodName := ⟨RX5, "isTrue", "(I)Z"⟩
abbrev cX5_forgedOnes : ByteArray := prog_1_method_28_code
def yX5_forgedOnes : MethodName := ⟨RX5, "forgedOnes", "()I"⟩
abbrev cX5_canBeMarked : ByteArray := prog_1_method_29_code
def yX5_canBeMarked : MethodName := ⟨RX5, "canBeMarked", "(II)Z"⟩
abbrev cX5_ownFirst : ByteArray := prog_1_method_30_code
def yX5_ownFirst : MethodName := ⟨RX5, "ownFirst", "(I)I"⟩
abbrev cX5_ownLast : ByteArray := prog_1_method_31_code
def yX5_ownLast : MethodName := ⟨RX5, "ownLast", "(I)I"⟩
abbrev cX5_hasOwnYear : ByteArray := prog_1_method_32_code
def yX5_hasOwnYear : MethodName := ⟨RX5, "hasOwnYear", "(I)Z"⟩
abbrev cX5_settle : ByteArray := prog_1_method_33_code
def yX5_settle : MethodName := ⟨RX5, "settle", "()V"⟩
abbrev cX5_disputed : ByteArray := prog_1_method_34_code
def yX5_disputed : MethodName := ⟨RX5, "disputed", "(II)I"⟩
abbrev cX5_clashes : ByteArray := prog_1_method_35_code
def yX5_clashes : MethodName := ⟨RX5, "clashes", "()I"⟩
abbrev cX5_isMisjudged : ByteArray := prog_1_method_36_code
def yX5_isMisjudged : MethodName := ⟨RX5, "isMisjudged", "(I)Z"⟩
def RX6 : String := "DeedBenchModel"
def TX6 : u_T := fun k => match k with
  | 0 => ("DeedBenchModel", "tape", "[B", true)
  | 1 => ("DeedBenchModel", "taped", "I", false)
  | 2 => ("DeedBenchModel", "wide", "I", false)
  | 3 => ("DeedBenchModel", "people", "I", false)
  | 4 => ("DeedBenchModel", "formulas", "I", false)
  | 5 => ("DeedBenchModel", "seals", "I", false)
  | 6 => ("DeedBenchModel", "deeds", "I", false)
  | 7 => ("DeedBenchModel", "lifeFrom", "[I", true)
  | 8 => ("DeedBenchModel", "lifeTo", "[I", true)
  | 9 => ("DeedBenchModel", "formulaFrom", "[I", true)
  | 10 => ("DeedBenchModel", "formulaTo", "[I", true)
  | 11 => ("DeedBenchModel", "sealFrom", "[I", true)
  | 12 => ("DeedBenchModel", "sealTo", "[I", true)
  | 13 => ("DeedBenchModel", "from", "[I", true)
  | 14 => ("DeedBenchModel", "to", "[I", true)
  | 15 => ("DeedBenchModel", "weight", "[I", true)
  | 16 => ("DeedBenchModel", "marks", "[I", true)
  | 17 => ("DeedBenchModel", "kind", "[I", true)
  | 18 => ("DeedBenchModel", "which", "[I", true)
  | 19 => ("DeedBenchModel", "letters", "[I", true)
  | 20 => ("DeedBenchModel", "words", "[B", true)
  | 21 => ("DeedBenchModel", "house", "[I", true)
  | 22 => ("DeedBenchModel", "parcels", "[I", true)
  | 23 => ("DeedBenchModel", "court", "[I", true)
  | 24 => ("DeedBenchModel", "low", "[I", true)
  | 25 => ("DeedBenchModel", "high", "[I", true)
  | 26 => ("DeedBenchModel", "isHand", "[Z", true)
  | 27 => ("DeedBenchModel", "isNaming", "[Z", true)
  | 28 => ("DeedBenchModel", "least", "[I", true)
  | 29 => ("DeedBenchModel", "most", "[I", true)
  | 30 => ("DeedBenchModel", "isFresh", "Z", false)
  | 31 => ("DeedBenchModel", "isGood", "[Z", true)
  | 32 => ("DeedBenchModel", "forged", "I", false)
  | _ => ("DeedBenchModel", "quarrel", "I", false)
def tyX6 : Nat → FieldType := fun k => match k with
  | 0 => .array .byte
  | 1 => .int
  | 2 => .int
  | 3 => .int
  | 4 => .int
  | 5 => .int
  | 6 => .int
  | 7 => .array .int
  | 8 => .array .int
  | 9 => .array .int
  | 10 => .array .int
  | 11 => .array .int
  | 12 => .array .int
  | 13 => .array .int
  | 14 => .array .int
  | 15 => .array .int
  | 16 => .array .int
  | 17 => .array .int
  | 18 => .array .int
  | 19 => .array .int
  | 20 => .array .byte
  | 21 => .array .int
  | 22 => .array .int
  | 23 => .array .int
  | 24 => .array .int
  | 25 => .array .int
  | 26 => .array .boolean
  | 27 => .array .boolean
  | 28 => .array .int
  | 29 => .array .int
  | 30 => .boolean
  | 31 => .array .boolean
  | 32 => .int
  | _ => .int
abbrev wsX60 : List Cond := u_ws RX6 TX6 34
theorem nmX6 : ∀ a, a < 34 → ∀ b, b < 34 → a ≠ b → (TX6 a).2.1 ≠ (TX6 b).2.1 := by decide +kernel
theorem tyX6_ok : ∀ k, k < 34 → parseFieldDescriptor (TX6 k).2.2.1 = some (tyX6 k) := by decide +kernel
abbrev cX6_init : ByteArray := prog_8_method_1_code
def yX6_init : MethodName := ⟨RX6, "<init>", "()V"⟩
abbrev cX6_lies : ByteArray := prog_8_method_2_code
def yX6_lies : MethodName := ⟨RX6, "lies", "(III)Z"⟩
abbrev cX6_isSpan : ByteArray := prog_8_method_3_code
def yX6_isSpan : MethodName := ⟨RX6, "isSpan", "(II)Z"⟩
abbrev cX6_has : ByteArray := prog_8_method_4_code
def yX6_has : MethodName := ⟨RX6, "has", "(II)Z"⟩
abbrev cX6_isDeed : ByteArray := prog_8_method_5_code
def yX6_isDeed : MethodName := ⟨RX6, "isDeed", "(I)Z"⟩
abbrev cX6_person : ByteArray := prog_8_method_6_code
def yX6_person : MethodName := ⟨RX6, "person", "(II)I"⟩
abbrev cX6_lived : ByteArray := prog_8_method_7_code
def yX6_lived : MethodName := ⟨RX6, "lived", "(III)Z"⟩
abbrev cX6_formula : ByteArray := prog_8_method_8_code
def yX6_formula : MethodName := ⟨RX6, "formula", "(II)I"⟩
abbrev cX6_seal : ByteArray := prog_8_method_9_code
def yX6_seal : MethodName := ⟨RX6, "seal", "(II)I"⟩
abbrev cX6_span : ByteArray := prog_8_method_10_code
def yX6_span : MethodName := ⟨RX6, "span", "(I)Z"⟩
abbrev cX6_deed : ByteArray := prog_8_method_11_code
def yX6_deed : MethodName := ⟨RX6, "deed", "(III)I"⟩
abbrev cX6_manyOf : ByteArray := prog_8_method_12_code
def yX6_manyOf : MethodName := ⟨RX6, "manyOf", "(I)I"⟩
abbrev cX6_hasMark : ByteArray := prog_8_method_13_code
def yX6_hasMark : MethodName := ⟨RX6, "hasMark", "(III)Z"⟩
abbrev cX6_mark : ByteArray := prog_8_method_14_code
def yX6_mark : MethodName := ⟨RX6, "mark", "(III)Z"⟩
abbrev cX6_narrows : ByteArray := prog_8_method_15_code
def yX6_narrows : MethodName := ⟨RX6, "narrows", "(III)V"⟩
abbrev cX6_owns : ByteArray := prog_8_method_16_code
def yX6_owns : MethodName := ⟨RX6, "owns", "()V"⟩
abbrev cX6_ups : ByteArray := prog_8_method_17_code
def yX6_ups : MethodName := ⟨RX6, "ups", "(I)V"⟩
abbrev cX6_downs : ByteArray := prog_8_method_18_code
def yX6_downs : MethodName := ⟨RX6, "downs", "(I)V"⟩
abbrev cX6_agrees : ByteArray := prog_8_method_19_code
def yX6_agrees : MethodName := ⟨RX6, "agrees", "(I)Z"⟩
abbrev cX6_weightOf : ByteArray := prog_8_method_20_code
def yX6_weightOf : MethodName := ⟨RX6, "weightOf", "(I)I"⟩
abbrev cX6_sizeOf : ByteArray := prog_8_method_21_code
def yX6_sizeOf : MethodName := ⟨RX6, "sizeOf", "(I)I"⟩
abbrev cX6_works : ByteArray := prog_8_method_22_code
def yX6_works : MethodName := ⟨RX6, "works", "()V"⟩
abbrev cX6_isSet : ByteArray := prog_8_method_23_code
def yX6_isSet : MethodName := ⟨RX6, "isSet", "(I)Z"⟩
abbrev cX6_agree : ByteArray := prog_8_method_24_code
def yX6_agree : MethodName := ⟨RX6, "agree", "(I)I"⟩
abbrev cX6_forged : ByteArray := prog_8_method_25_code
def yX6_forged : MethodName := ⟨RX6, "forged", "()I"⟩
abbrev cX6_weight : ByteArray := prog_8_method_26_code
def yX6_weight : MethodName := ⟨RX6, "weight", "(I)I"⟩
abbrev cX6_isTrue : ByteArray := prog_8_method_27_code
def yX6_isTrue : MethodName := ⟨RX6, "isTrue", "(I)Z"⟩
abbrev cX6_year : ByteArray := prog_8_method_28_code
def yX6_year : MethodName := ⟨RX6, "year", "(II)I"⟩
abbrev cX6_quarrel : ByteArray := prog_8_method_29_code
def yX6_quarrel : MethodName := ⟨RX6, "quarrel", "()I"⟩
abbrev cX6_sure : ByteArray := prog_8_method_30_code
def yX6_sure : MethodName := ⟨RX6, "sure", "(II)I"⟩
abbrev cX6_push : ByteArray := prog_8_method_31_code
def yX6_push : MethodName := ⟨RX6, "push", "(I)V"⟩
abbrev cX6_feed : ByteArray := prog_8_method_32_code
def yX6_feed : MethodName := ⟨RX6, "feed", "(IIIII)I"⟩
abbrev cX6_words : ByteArray := prog_8_method_33_code
def yX6_words : MethodName := ⟨RX6, "words", "(II)Z"⟩
abbrev cX6_alike : ByteArray := prog_8_method_34_code
def yX6_alike : MethodName := ⟨RX6, "alike", "(IIII)I"⟩
abbrev cX6_model : ByteArray := prog_8_method_35_code
def yX6_model : MethodName := ⟨RX6, "model", "(II)I"⟩
abbrev cX6_claim : ByteArray := prog_8_method_36_code
def yX6_claim : MethodName := ⟨RX6, "claim", "(III)Z"⟩
abbrev cX6_both : ByteArray := prog_8_method_37_code
def yX6_both : MethodName := ⟨RX6, "both", "(II)I"⟩
abbrev cX6_clash : ByteArray := prog_8_method_38_code
def yX6_clash : MethodName := ⟨RX6, "clash", "(II)I"⟩
abbrev cX6_court : ByteArray := prog_8_method_39_code
def yX6_court : MethodName := ⟨RX6, "court", "(II)Z"⟩
abbrev cX6_otherwise : ByteArray := prog_8_method_40_code
def yX6_otherwise : MethodName := ⟨RX6, "otherwise", "(I)I"⟩
abbrev cX6_look : ByteArray := prog_8_method_41_code
def yX6_look : MethodName := ⟨RX6, "look", "(II)I"⟩
abbrev cX6_count : ByteArray := prog_8_method_42_code
def yX6_count : MethodName := ⟨RX6, "count", "(I)I"⟩
def RJ6 : String := "java/lang/Integer"
def TJ6 : u_T := fun k => match k with
  | _ => ("", "", "", false)
def tyJ6 : Nat → FieldType := fun k => match k with
  | _ => .int
abbrev wsJ60 : List Cond := u_ws RJ6 TJ6 0
theorem nmJ6 : ∀ a, a < 0 → ∀ b, b < 0 → a ≠ b → (TJ6 a).2.1 ≠ (TJ6 b).2.1 := by decide +kernel
theorem tyJ6_ok : ∀ k, k < 0 → parseFieldDescriptor (TJ6 k).2.2.1 = some (tyJ6 k) := by decide +kernel
abbrev cJ6_compare_7cf53 : ByteArray := prog_9_method_40_code
def yJ6_compare_7cf53 : MethodName := ⟨RJ6, "compare", "(II)I"⟩
abbrev cJ6_bitCount_0f7a4 : ByteArray := prog_9_method_49_code
def yJ6_bitCount_0f7a4 : MethodName := ⟨RJ6, "bitCount", "(I)I"⟩
def RJ9 : String := "java/lang/Math"
def TJ9 : u_T := fun k => match k with
  | _ => ("", "", "", false)
def tyJ9 : Nat → FieldType := fun k => match k with
  | _ => .int
abbrev wsJ90 : List Cond := u_ws RJ9 TJ9 0
theorem nmJ9 : ∀ a, a < 0 → ∀ b, b < 0 → a ≠ b → (TJ9 a).2.1 ≠ (TJ9 b).2.1 := by decide +kernel
theorem tyJ9_ok : ∀ k, k < 0 → parseFieldDescriptor (TJ9 k).2.2.1 = some (tyJ9 k) := by decide +kernel
abbrev cJ9_max_7cf53 : ByteArray := prog_10_method_65_code
def yJ9_max_7cf53 : MethodName := ⟨RJ9, "max", "(II)I"⟩
abbrev cJ9_min_7cf53 : ByteArray := prog_10_method_69_code
def yJ9_min_7cf53 : MethodName := ⟨RJ9, "min", "(II)I"⟩
def RJ10 : String := "java/lang/System"
def TJ10 : u_T := fun k => match k with
  | _ => ("", "", "", false)
def tyJ10 : Nat → FieldType := fun k => match k with
  | _ => .int
abbrev wsJ100 : List Cond := u_ws RJ10 TJ10 0
theorem nmJ10 : ∀ a, a < 0 → ∀ b, b < 0 → a ≠ b → (TJ10 a).2.1 ≠ (TJ10 b).2.1 := by decide +kernel
theorem tyJ10_ok : ∀ k, k < 0 → parseFieldDescriptor (TJ10 k).2.2.1 = some (tyJ10 k) := by decide +kernel
def RL : String := "DeedBenchLaw"
abbrev cL_law : ByteArray := code
def yL_law : MethodName := ⟨RL, "law", "([I)Z"⟩
abbrev vwCl : List vw_C := [(RX0, TX0, 1), (RX1, TX1, 4), (RX2, TX2, 3), (RX3, TX3, 11), (RX4, TX4, 8), (RX5, TX5, 13), (RX6, TX6, 34)]
end
section
/-- my own machine over a world that stands: values, memory, locals, an instruction (place, length, instruction, number, two operands, targets with the locals that live there) -/
abbrev AV : Type := Int32 ⊕ Nat
abbrev AM : Type := Nat → Nat → Int32
abbrev AL : Type := List (Option AV)
abbrev AOp : Type := Nat × Nat × Instr × Int32 × Nat × Nat × List (Nat × List Bool)
abbrev ASh : Type := (Nat × Nat) ⊕ (Nat × List (Option Nat))
/-- the world: what stands at each of its places: 0 bench; 1 people; 2 people.from; 3 people.to; 4 formulas; 5 formulas.from; 6 formulas.to; 7 seals; 8 seals.from; 9 seals.to; 10 deeds; 11 deeds.from; 12 deeds.to; 13 marks; 14 marks.sets; 15 timeline; 16 timeline.first; 17 timeline.last; 18 timeline.near; 19 timeline.named; 20 timeline.least; 21 timeline.greatest; 22 timeline.latest; 23 timeline.before; 24 timeline.cause; 25 search; 26 search.weights; 27 writing; 28 writing.tape; 29 writing.letters; 30 writing.sizes; 31 bench.house; 32 bench.parcels; 33 bench.verdict; 34 model; 35 model.tape; 36 model.lifeFrom; 37 model.lifeTo; 38 model.formulaFrom; 39 model.formulaTo; 40 model.sealFrom; 41 model.sealTo; 42 model.from; 43 model.to; 44 model.weight; 45 model.marks; 46 model.kind; 47 model.which; 48 model.letters; 49 model.words; 50 model.house; 51 model.parcels; 52 model.court; 53 model.low; 54 model.high; 55 model.isHand; 56 model.isNaming; 57 model.least; 58 model.most; 59 model.isGood -/
def shp : List ASh := [.inr (5, [some 1, some 4, some 7, some 10, some 13, some 15, some 25, some 27, some 31, some 32, some 33, none, none]), .inr (2, [some 2, some 3, none]), .inl (0, 20), .inl (0, 20), .inr (2, [some 5, some 6, none]), .inl (0, 10), .inl (0, 10), .inr (2, [some 8, some 9, none]), .inl (0, 8), .inl (0, 8), .inr (2, [some 11, some 12, none]), .inl (0, 12), .inl (0, 12), .inr (0, [some 14]), .inl (0, 60), .inr (3, [some 16, some 17, some 18, some 19, some 20, some 21, some 22, some 23, some 24, none, none]), .inl (0, 12), .inl (0, 12), .inl (0, 12), .inl (0, 12), .inl (0, 12), .inl (0, 12), .inl (0, 12), .inl (0, 12), .inl (0, 12), .inr (1, [some 15, some 26, none, none]), .inl (0, 12), .inr (4, [some 28, some 29, some 30, none, none, none, none, none]), .inl (0, 40), .inl (0, 240), .inl (0, 12), .inl (0, 12), .inl (0, 12), .inl (0, 12), .inr (6, [some 35, none, none, none, none, none, none, some 36, some 37, some 38, some 39, some 40, some 41, some 42, some 43, some 44, some 45, some 46, some 47, some 48, some 49, some 50, some 51, some 52, some 53, some 54, some 55, some 56, some 57, some 58, none, some 59, none, none]), .inl (1, 40), .inl (0, 20), .inl (0, 20), .inl (0, 10), .inl (0, 10), .inl (0, 8), .inl (0, 8), .inl (0, 12), .inl (0, 12), .inl (0, 12), .inl (0, 12), .inl (0, 96), .inl (0, 96), .inl (0, 12), .inl (1, 240), .inl (0, 12), .inl (0, 12), .inl (0, 12), .inl (0, 12), .inl (0, 12), .inl (2, 144), .inl (2, 144), .inl (0, 12), .inl (0, 12), .inl (2, 4096)]
def shF : Nat → Option ASh
  | 0 => some (.inr (5, [some 1, some 4, some 7, some 10, some 13, some 15, some 25, some 27, some 31, some 32, some 33, none, none]))
  | 1 => some (.inr (2, [some 2, some 3, none]))
  | 2 => some (.inl (0, 20))
  | 3 => some (.inl (0, 20))
  | 4 => some (.inr (2, [some 5, some 6, none]))
  | 5 => some (.inl (0, 10))
  | 6 => some (.inl (0, 10))
  | 7 => some (.inr (2, [some 8, some 9, none]))
  | 8 => some (.inl (0, 8))
  | 9 => some (.inl (0, 8))
  | 10 => some (.inr (2, [some 11, some 12, none]))
  | 11 => some (.inl (0, 12))
  | 12 => some (.inl (0, 12))
  | 13 => some (.inr (0, [some 14]))
  | 14 => some (.inl (0, 60))
  | 15 => some (.inr (3, [some 16, some 17, some 18, some 19, some 20, some 21, some 22, some 23, some 24, none, none]))
  | 16 => some (.inl (0, 12))
  | 17 => some (.inl (0, 12))
  | 18 => some (.inl (0, 12))
  | 19 => some (.inl (0, 12))
  | 20 => some (.inl (0, 12))
  | 21 => some (.inl (0, 12))
  | 22 => some (.inl (0, 12))
  | 23 => some (.inl (0, 12))
  | 24 => some (.inl (0, 12))
  | 25 => some (.inr (1, [some 15, some 26, none, none]))
  | 26 => some (.inl (0, 12))
  | 27 => some (.inr (4, [some 28, some 29, some 30, none, none, none, none, none]))
  | 28 => some (.inl (0, 40))
  | 29 => some (.inl (0, 240))
  | 30 => some (.inl (0, 12))
  | 31 => some (.inl (0, 12))
  | 32 => some (.inl (0, 12))
  | 33 => some (.inl (0, 12))
  | 34 => some (.inr (6, [some 35, none, none, none, none, none, none, some 36, some 37, some 38, some 39, some 40, some 41, some 42, some 43, some 44, some 45, some 46, some 47, some 48, some 49, some 50, some 51, some 52, some 53, some 54, some 55, some 56, some 57, some 58, none, some 59, none, none]))
  | 35 => some (.inl (1, 40))
  | 36 => some (.inl (0, 20))
  | 37 => some (.inl (0, 20))
  | 38 => some (.inl (0, 10))
  | 39 => some (.inl (0, 10))
  | 40 => some (.inl (0, 8))
  | 41 => some (.inl (0, 8))
  | 42 => some (.inl (0, 12))
  | 43 => some (.inl (0, 12))
  | 44 => some (.inl (0, 12))
  | 45 => some (.inl (0, 12))
  | 46 => some (.inl (0, 96))
  | 47 => some (.inl (0, 96))
  | 48 => some (.inl (0, 12))
  | 49 => some (.inl (1, 240))
  | 50 => some (.inl (0, 12))
  | 51 => some (.inl (0, 12))
  | 52 => some (.inl (0, 12))
  | 53 => some (.inl (0, 12))
  | 54 => some (.inl (0, 12))
  | 55 => some (.inl (2, 144))
  | 56 => some (.inl (2, 144))
  | 57 => some (.inl (0, 12))
  | 58 => some (.inl (0, 12))
  | 59 => some (.inl (2, 4096))
  | _ => none
theorem sh0 : shF 0 = some (.inr (5, [some 1, some 4, some 7, some 10, some 13, some 15, some 25, some 27, some 31, some 32, some 33, none, none])) := rfl
theorem sh1 : shF 1 = some (.inr (2, [some 2, some 3, none])) := rfl
theorem sh2 : shF 2 = some (.inl (0, 20)) := rfl
theorem sh3 : shF 3 = some (.inl (0, 20)) := rfl
theorem sh4 : shF 4 = some (.inr (2, [some 5, some 6, none])) := rfl
theorem sh5 : shF 5 = some (.inl (0, 10)) := rfl
theorem sh6 : shF 6 = some (.inl (0, 10)) := rfl
theorem sh7 : shF 7 = some (.inr (2, [some 8, some 9, none])) := rfl
theorem sh8 : shF 8 = some (.inl (0, 8)) := rfl
theorem sh9 : shF 9 = some (.inl (0, 8)) := rfl
theorem sh10 : shF 10 = some (.inr (2, [some 11, some 12, none])) := rfl
theorem sh11 : shF 11 = some (.inl (0, 12)) := rfl
theorem sh12 : shF 12 = some (.inl (0, 12)) := rfl
theorem sh13 : shF 13 = some (.inr (0, [some 14])) := rfl
theorem sh14 : shF 14 = some (.inl (0, 60)) := rfl
theorem sh15 : shF 15 = some (.inr (3, [some 16, some 17, some 18, some 19, some 20, some 21, some 22, some 23, some 24, none, none])) := rfl
theorem sh16 : shF 16 = some (.inl (0, 12)) := rfl
theorem sh17 : shF 17 = some (.inl (0, 12)) := rfl
theorem sh18 : shF 18 = some (.inl (0, 12)) := rfl
theorem sh19 : shF 19 = some (.inl (0, 12)) := rfl
theorem sh20 : shF 20 = some (.inl (0, 12)) := rfl
theorem sh21 : shF 21 = some (.inl (0, 12)) := rfl
theorem sh22 : shF 22 = some (.inl (0, 12)) := rfl
theorem sh23 : shF 23 = some (.inl (0, 12)) := rfl
theorem sh24 : shF 24 = some (.inl (0, 12)) := rfl
theorem sh25 : shF 25 = some (.inr (1, [some 15, some 26, none, none])) := rfl
theorem sh26 : shF 26 = some (.inl (0, 12)) := rfl
theorem sh27 : shF 27 = some (.inr (4, [some 28, some 29, some 30, none, none, none, none, none])) := rfl
theorem sh28 : shF 28 = some (.inl (0, 40)) := rfl
theorem sh29 : shF 29 = some (.inl (0, 240)) := rfl
theorem sh30 : shF 30 = some (.inl (0, 12)) := rfl
theorem sh31 : shF 31 = some (.inl (0, 12)) := rfl
theorem sh32 : shF 32 = some (.inl (0, 12)) := rfl
theorem sh33 : shF 33 = some (.inl (0, 12)) := rfl
theorem sh34 : shF 34 = some (.inr (6, [some 35, none, none, none, none, none, none, some 36, some 37, some 38, some 39, some 40, some 41, some 42, some 43, some 44, some 45, some 46, some 47, some 48, some 49, some 50, some 51, some 52, some 53, some 54, some 55, some 56, some 57, some 58, none, some 59, none, none])) := rfl
theorem sh35 : shF 35 = some (.inl (1, 40)) := rfl
theorem sh36 : shF 36 = some (.inl (0, 20)) := rfl
theorem sh37 : shF 37 = some (.inl (0, 20)) := rfl
theorem sh38 : shF 38 = some (.inl (0, 10)) := rfl
theorem sh39 : shF 39 = some (.inl (0, 10)) := rfl
theorem sh40 : shF 40 = some (.inl (0, 8)) := rfl
theorem sh41 : shF 41 = some (.inl (0, 8)) := rfl
theorem sh42 : shF 42 = some (.inl (0, 12)) := rfl
theorem sh43 : shF 43 = some (.inl (0, 12)) := rfl
theorem sh44 : shF 44 = some (.inl (0, 12)) := rfl
theorem sh45 : shF 45 = some (.inl (0, 12)) := rfl
theorem sh46 : shF 46 = some (.inl (0, 96)) := rfl
theorem sh47 : shF 47 = some (.inl (0, 96)) := rfl
theorem sh48 : shF 48 = some (.inl (0, 12)) := rfl
theorem sh49 : shF 49 = some (.inl (1, 240)) := rfl
theorem sh50 : shF 50 = some (.inl (0, 12)) := rfl
theorem sh51 : shF 51 = some (.inl (0, 12)) := rfl
theorem sh52 : shF 52 = some (.inl (0, 12)) := rfl
theorem sh53 : shF 53 = some (.inl (0, 12)) := rfl
theorem sh54 : shF 54 = some (.inl (0, 12)) := rfl
theorem sh55 : shF 55 = some (.inl (2, 144)) := rfl
theorem sh56 : shF 56 = some (.inl (2, 144)) := rfl
theorem sh57 : shF 57 = some (.inl (0, 12)) := rfl
theorem sh58 : shF 58 = some (.inl (0, 12)) := rfl
theorem sh59 : shF 59 = some (.inl (2, 4096)) := rfl
theorem shF_eq : ∀ r : Nat, shF r = shp[r]?
  | 0 => rfl
  | 1 => rfl
  | 2 => rfl
  | 3 => rfl
  | 4 => rfl
  | 5 => rfl
  | 6 => rfl
  | 7 => rfl
  | 8 => rfl
  | 9 => rfl
  | 10 => rfl
  | 11 => rfl
  | 12 => rfl
  | 13 => rfl
  | 14 => rfl
  | 15 => rfl
  | 16 => rfl
  | 17 => rfl
  | 18 => rfl
  | 19 => rfl
  | 20 => rfl
  | 21 => rfl
  | 22 => rfl
  | 23 => rfl
  | 24 => rfl
  | 25 => rfl
  | 26 => rfl
  | 27 => rfl
  | 28 => rfl
  | 29 => rfl
  | 30 => rfl
  | 31 => rfl
  | 32 => rfl
  | 33 => rfl
  | 34 => rfl
  | 35 => rfl
  | 36 => rfl
  | 37 => rfl
  | 38 => rfl
  | 39 => rfl
  | 40 => rfl
  | 41 => rfl
  | 42 => rfl
  | 43 => rfl
  | 44 => rfl
  | 45 => rfl
  | 46 => rfl
  | 47 => rfl
  | 48 => rfl
  | 49 => rfl
  | 50 => rfl
  | 51 => rfl
  | 52 => rfl
  | 53 => rfl
  | 54 => rfl
  | 55 => rfl
  | 56 => rfl
  | 57 => rfl
  | 58 => rfl
  | 59 => rfl
  | _ + 60 => rfl
def bX0_isPlace_0 : List AOp := [(0, 1, .iload_n 0, 0, 0, 0, []), (1, 3, .ifCond .lt 22, 0, 0, 0, [(23,[false,false]), (4,[true,true])])]
def bX0_isPlace_4 : List AOp := [(4, 1, .iload_n 0, 0, 0, 0, []), (5, 2, .bipush 12, 12, 0, 0, []), (7, 3, .if_icmp .ge 16, 0, 0, 0, [(23,[false,false]), (10,[false,true])])]
def bX0_isPlace_10 : List AOp := [(10, 1, .iload_n 1, 0, 1, 0, []), (11, 3, .ifCond .lt 12, 0, 0, 0, [(23,[false,false]), (14,[false,true])])]
def bX0_isPlace_14 : List AOp := [(14, 1, .iload_n 1, 0, 1, 0, []), (15, 1, .iconst 5, 5, 0, 0, []), (16, 3, .if_icmp .ge 7, 0, 0, 0, [(23,[false,false]), (19,[false,false])])]
def bX0_isPlace_19 : List AOp := [(19, 1, .iconst 1, 1, 0, 0, []), (20, 3, .goto 4, 0, 0, 0, [(24,[false,false])])]
def bX0_isPlace_23 : List AOp := [(23, 1, .iconst 0, 0, 0, 0, []), (24, 0, .nop, 0, 0, 0, [(24,[false,false])])]
def bX0_isPlace_24 : List AOp := [(24, 1, .ireturn, 0, 0, 0, [])]
def blX0_isPlace : List (Nat × List AOp) := [(0, bX0_isPlace_0), (4, bX0_isPlace_4), (10, bX0_isPlace_10), (14, bX0_isPlace_14), (19, bX0_isPlace_19), (23, bX0_isPlace_23), (24, bX0_isPlace_24)]
def bX0_of_0 : List AOp := [(0, 1, .iload_n 1, 0, 1, 0, []), (1, 1, .iload_n 2, 0, 2, 0, []), (2, 3, .invokestatic 15, 0, 0, 2, []), (5, 3, .ifCond .eq 17, 0, 0, 0, [(22,[false,false,false]), (8,[true,true,true])])]
def bX0_of_8 : List AOp := [(8, 1, .aload_n 0, 0, 0, 0, []), (9, 3, .getfield 9, 0, 0, 0, []), (12, 1, .iload_n 2, 0, 2, 0, []), (13, 2, .bipush 12, 12, 0, 0, []), (15, 1, .imul, 0, 0, 0, []), (16, 1, .iload_n 1, 0, 1, 0, []), (17, 1, .iadd, 0, 0, 0, []), (18, 1, .iaload, 0, 0, 0, []), (19, 3, .goto 4, 0, 0, 0, [(23,[false,false,false])])]
def bX0_of_22 : List AOp := [(22, 1, .iconst 0, 0, 0, 0, []), (23, 0, .nop, 0, 0, 0, [(23,[false,false,false])])]
def bX0_of_23 : List AOp := [(23, 1, .ireturn, 0, 0, 0, [])]
def blX0_of : List (Nat × List AOp) := [(0, bX0_of_0), (8, bX0_of_8), (22, bX0_of_22), (23, bX0_of_23)]
def bX0_many_0 : List AOp := [(0, 1, .iconst 0, 0, 0, 0, []), (1, 1, .istore_n 2, 0, 2, 0, []), (2, 1, .iconst 0, 0, 0, 0, []), (3, 1, .istore_n 3, 0, 3, 0, []), (4, 0, .nop, 0, 0, 0, [(4,[true,true,true,true])])]
def bX0_many_4 : List AOp := [(4, 1, .iload_n 3, 0, 3, 0, []), (5, 1, .iconst 5, 5, 0, 0, []), (6, 3, .if_icmp .ge 21, 0, 0, 0, [(27,[false,false,true,false]), (9,[true,true,true,true])])]
def bX0_many_9 : List AOp := [(9, 1, .iload_n 2, 0, 2, 0, []), (10, 1, .aload_n 0, 0, 0, 0, []), (11, 1, .iload_n 1, 0, 1, 0, []), (12, 1, .iload_n 3, 0, 3, 0, []), (13, 3, .invokevirtual 19, 0, 1, 3, [(0,[])]), (16, 3, .invokestatic 23, 0, 104, 1, []), (19, 1, .iadd, 0, 0, 0, []), (20, 1, .istore_n 2, 0, 2, 0, []), (21, 3, .iinc 3 1, 1, 3, 0, []), (24, 3, .goto (-20), 0, 0, 0, [(4,[true,true,true,true])])]
def bX0_many_27 : List AOp := [(27, 1, .iload_n 2, 0, 2, 0, []), (28, 1, .ireturn, 0, 0, 0, [])]
def blX0_many : List (Nat × List AOp) := [(0, bX0_many_0), (4, bX0_many_4), (9, bX0_many_9), (27, bX0_many_27)]
def bX0_put_0 : List AOp := [(0, 1, .iload_n 1, 0, 1, 0, []), (1, 1, .iload_n 2, 0, 2, 0, []), (2, 3, .invokestatic 15, 0, 0, 2, []), (5, 3, .ifCond .eq 26, 0, 0, 0, [(31,[false,false,false,false]), (8,[true,true,true,true])])]
def bX0_put_8 : List AOp := [(8, 1, .aload_n 0, 0, 0, 0, []), (9, 1, .iload_n 1, 0, 1, 0, []), (10, 1, .iload_n 2, 0, 2, 0, []), (11, 3, .invokevirtual 19, 0, 1, 3, [(0,[])]), (14, 1, .iload_n 3, 0, 3, 0, []), (15, 3, .invokestatic 29, 0, 49, 2, []), (18, 3, .ifCond .ne 13, 0, 0, 0, [(31,[false,false,false,false]), (21,[true,true,true,true])])]
def bX0_put_21 : List AOp := [(21, 1, .aload_n 0, 0, 0, 0, []), (22, 1, .iload_n 1, 0, 1, 0, []), (23, 3, .invokevirtual 32, 0, 2, 2, [(0,[])]), (26, 2, .bipush 8, 8, 0, 0, []), (28, 3, .if_icmp .lt 5, 0, 0, 0, [(33,[true,true,true,true]), (31,[false,false,false,false])])]
def bX0_put_31 : List AOp := [(31, 1, .iconst 0, 0, 0, 0, []), (32, 1, .ireturn, 0, 0, 0, [])]
def bX0_put_33 : List AOp := [(33, 1, .aload_n 0, 0, 0, 0, []), (34, 3, .getfield 9, 0, 0, 0, []), (37, 1, .iload_n 2, 0, 2, 0, []), (38, 2, .bipush 12, 12, 0, 0, []), (40, 1, .imul, 0, 0, 0, []), (41, 1, .iload_n 1, 0, 1, 0, []), (42, 1, .iadd, 0, 0, 0, []), (43, 1, .dup2, 0, 0, 0, []), (44, 1, .iaload, 0, 0, 0, []), (45, 1, .iconst 1, 1, 0, 0, []), (46, 1, .iload_n 3, 0, 3, 0, []), (47, 1, .ishl, 0, 0, 0, []), (48, 1, .ior, 0, 0, 0, []), (49, 1, .iastore, 0, 0, 0, []), (50, 1, .iconst 1, 1, 0, 0, []), (51, 1, .ireturn, 0, 0, 0, [])]
def blX0_put : List (Nat × List AOp) := [(0, bX0_put_0), (8, bX0_put_8), (21, bX0_put_21), (31, bX0_put_31), (33, bX0_put_33)]
def bX0_sharingHand_0 : List AOp := [(0, 1, .iconst 0, 0, 0, 0, []), (1, 1, .istore_n 2, 0, 2, 0, []), (2, 1, .iconst 0, 0, 0, 0, []), (3, 1, .istore_n 3, 0, 3, 0, []), (4, 0, .nop, 0, 0, 0, [(4,[true,true,true,true])])]
def bX0_sharingHand_4 : List AOp := [(4, 1, .iload_n 3, 0, 3, 0, []), (5, 2, .bipush 12, 12, 0, 0, []), (7, 3, .if_icmp .ge 36, 0, 0, 0, [(43,[false,false,true,false]), (10,[true,true,true,true])])]
def bX0_sharingHand_10 : List AOp := [(10, 1, .iload_n 3, 0, 3, 0, []), (11, 1, .iload_n 1, 0, 1, 0, []), (12, 3, .if_icmp .eq 25, 0, 0, 0, [(37,[true,true,true,true]), (15,[true,true,true,true])])]
def bX0_sharingHand_15 : List AOp := [(15, 1, .aload_n 0, 0, 0, 0, []), (16, 1, .iload_n 1, 0, 1, 0, []), (17, 1, .iconst 3, 3, 0, 0, []), (18, 3, .invokevirtual 19, 0, 1, 3, [(0,[])]), (21, 1, .aload_n 0, 0, 0, 0, []), (22, 1, .iload_n 3, 0, 3, 0, []), (23, 1, .iconst 3, 3, 0, 0, []), (24, 3, .invokevirtual 19, 0, 1, 3, [(0,[])]), (27, 1, .iand, 0, 0, 0, []), (28, 3, .ifCond .eq 9, 0, 0, 0, [(37,[true,true,true,true]), (31,[true,true,true,true])])]
def bX0_sharingHand_31 : List AOp := [(31, 1, .iload_n 2, 0, 2, 0, []), (32, 1, .iconst 1, 1, 0, 0, []), (33, 1, .iload_n 3, 0, 3, 0, []), (34, 1, .ishl, 0, 0, 0, []), (35, 1, .ior, 0, 0, 0, []), (36, 1, .istore_n 2, 0, 2, 0, []), (37, 0, .nop, 0, 0, 0, [(37,[true,true,true,true])])]
def bX0_sharingHand_37 : List AOp := [(37, 3, .iinc 3 1, 1, 3, 0, []), (40, 3, .goto (-36), 0, 0, 0, [(4,[true,true,true,true])])]
def bX0_sharingHand_43 : List AOp := [(43, 1, .iload_n 2, 0, 2, 0, []), (44, 1, .ireturn, 0, 0, 0, [])]
def blX0_sharingHand : List (Nat × List AOp) := [(0, bX0_sharingHand_0), (4, bX0_sharingHand_4), (10, bX0_sharingHand_10), (15, bX0_sharingHand_15), (31, bX0_sharingHand_31), (37, bX0_sharingHand_37), (43, bX0_sharingHand_43)]
def bX1_lightest_0 : List AOp := [(0, 1, .aload_n 0, 0, 0, 0, []), (1, 1, .iload_n 1, 0, 1, 0, []), (2, 3, .putfield 19, 0, 1, 2, []), (5, 1, .aload_n 0, 0, 0, 0, []), (6, 1, .aload_n 0, 0, 0, 0, []), (7, 1, .iload_n 1, 0, 1, 0, []), (8, 3, .invokevirtual 26, 0, 6, 2, [(1,[])]), (11, 3, .putfield 23, 0, 1, 3, []), (14, 1, .aload_n 0, 0, 0, 0, []), (15, 1, .iload_n 1, 0, 1, 0, []), (16, 1, .iconst 0, 0, 0, 0, []), (17, 1, .iconst 0, 0, 0, 0, []), (18, 1, .iconst 0, 0, 0, 0, []), (19, 3, .invokestatic 30, 0, 7, 5, []), (22, 1, .aload_n 0, 0, 0, 0, []), (23, 3, .getfield 19, 0, 1, 2, []), (26, 1, .ireturn, 0, 0, 0, [])]
def blX1_lightest : List (Nat × List AOp) := [(0, bX1_lightest_0)]
def bX1_weigh_0 : List AOp := [(0, 1, .iconst 0, 0, 0, 0, []), (1, 1, .istore_n 2, 0, 2, 0, []), (2, 1, .iconst 0, 0, 0, 0, []), (3, 1, .istore_n 3, 0, 3, 0, []), (4, 0, .nop, 0, 0, 0, [(4,[true,true,true,true])])]
def bX1_weigh_4 : List AOp := [(4, 1, .iload_n 3, 0, 3, 0, []), (5, 2, .bipush 12, 12, 0, 0, []), (7, 3, .if_icmp .ge 26, 0, 0, 0, [(33,[false,false,true,false]), (10,[true,true,true,true])])]
def bX1_weigh_10 : List AOp := [(10, 1, .iload_n 1, 0, 1, 0, []), (11, 1, .iload_n 3, 0, 3, 0, []), (12, 3, .invokestatic 34, 0, 49, 2, []), (15, 3, .ifCond .eq 12, 0, 0, 0, [(27,[true,true,true,true]), (18,[true,true,true,true])])]
def bX1_weigh_18 : List AOp := [(18, 1, .iload_n 2, 0, 2, 0, []), (19, 1, .aload_n 0, 0, 0, 0, []), (20, 3, .getfield 9, 0, 1, 1, []), (23, 1, .iload_n 3, 0, 3, 0, []), (24, 1, .iaload, 0, 0, 0, []), (25, 1, .iadd, 0, 0, 0, []), (26, 1, .istore_n 2, 0, 2, 0, []), (27, 0, .nop, 0, 0, 0, [(27,[true,true,true,true])])]
def bX1_weigh_27 : List AOp := [(27, 3, .iinc 3 1, 1, 3, 0, []), (30, 3, .goto (-26), 0, 0, 0, [(4,[true,true,true,true])])]
def bX1_weigh_33 : List AOp := [(33, 1, .iload_n 2, 0, 2, 0, []), (34, 1, .ireturn, 0, 0, 0, [])]
def blX1_weigh : List (Nat × List AOp) := [(0, bX1_weigh_0), (4, bX1_weigh_4), (10, bX1_weigh_10), (18, bX1_weigh_18), (27, bX1_weigh_27), (33, bX1_weigh_33)]
def bX1_forge_0 : List AOp := [(0, 2, .iload 4, 0, 4, 0, []), (2, 2, .bipush 12, 12, 0, 0, []), (4, 3, .if_icmp .gt 15, 0, 0, 0, [(19,[false,false,false,false,false,false,false,false,false]), (7,[true,true,true,true,true,false,false,false,false])])]
def bX1_forge_7 : List AOp := [(7, 1, .aload_n 0, 0, 0, 0, []), (8, 1, .iload_n 2, 0, 2, 0, []), (9, 3, .invokevirtual 26, 0, 6, 2, [(1,[])]), (12, 1, .aload_n 0, 0, 0, 0, []), (13, 3, .getfield 23, 0, 1, 3, []), (16, 3, .if_icmp .le 4, 0, 0, 0, [(20,[true,true,true,true,true,false,false,false,false]), (19,[false,false,false,false,false,false,false,false,false])])]
def bX1_forge_19 : List AOp := [(19, 1, .return_, 0, 0, 0, [])]
def bX1_forge_20 : List AOp := [(20, 1, .aload_n 0, 0, 0, 0, []), (21, 3, .getfield 15, 0, 1, 0, []), (24, 1, .iload_n 1, 0, 1, 0, []), (25, 3, .invokevirtual 38, 0, 19, 2, [(3,[])]), (28, 2, .istore 5, 0, 5, 0, []), (30, 2, .iload 5, 0, 5, 0, []), (32, 3, .ifCond .ne 9, 0, 0, 0, [(41,[true,true,true,true,true,true,false,false,false]), (35,[true,false,true,false,false,false,false,false,false])])]
def bX1_forge_35 : List AOp := [(35, 1, .aload_n 0, 0, 0, 0, []), (36, 1, .iload_n 2, 0, 2, 0, []), (37, 3, .invokevirtual 43, 0, 8, 2, [(1,[])]), (40, 1, .return_, 0, 0, 0, [])]
def bX1_forge_41 : List AOp := [(41, 1, .iload_n 3, 0, 3, 0, []), (42, 2, .istore 6, 0, 6, 0, []), (44, 1, .iconst 0, 0, 0, 0, []), (45, 2, .istore 7, 0, 7, 0, []), (47, 0, .nop, 0, 0, 0, [(47,[true,true,true,false,true,true,true,true,false])])]
def bX1_forge_47 : List AOp := [(47, 2, .iload 7, 0, 7, 0, []), (49, 2, .bipush 12, 12, 0, 0, []), (51, 3, .if_icmp .ge 55, 0, 0, 0, [(106,[false,false,false,false,false,false,false,false,false]), (54,[true,true,true,false,true,true,true,true,false])])]
def bX1_forge_54 : List AOp := [(54, 1, .iconst 1, 1, 0, 0, []), (55, 2, .iload 7, 0, 7, 0, []), (57, 1, .ishl, 0, 0, 0, []), (58, 2, .istore 8, 0, 8, 0, []), (60, 2, .iload 5, 0, 5, 0, []), (62, 2, .iload 6, 0, 6, 0, []), (64, 1, .iconst (-1), (-1), 0, 0, []), (65, 1, .ixor, 0, 0, 0, []), (66, 1, .iand, 0, 0, 0, []), (67, 2, .iload 8, 0, 8, 0, []), (69, 1, .iand, 0, 0, 0, []), (70, 3, .ifCond .eq 30, 0, 0, 0, [(100,[true,true,true,false,true,true,true,true,false]), (73,[true,true,true,false,true,true,true,true,true])])]
def bX1_forge_73 : List AOp := [(73, 1, .aload_n 0, 0, 0, 0, []), (74, 1, .iload_n 1, 0, 1, 0, []), (75, 2, .iload 8, 0, 8, 0, []), (77, 1, .iconst (-1), (-1), 0, 0, []), (78, 1, .ixor, 0, 0, 0, []), (79, 1, .iand, 0, 0, 0, []), (80, 1, .iload_n 2, 0, 2, 0, []), (81, 2, .iload 8, 0, 8, 0, []), (83, 1, .ior, 0, 0, 0, []), (84, 2, .iload 6, 0, 6, 0, []), (86, 2, .iload 4, 0, 4, 0, []), (88, 1, .iconst 1, 1, 0, 0, []), (89, 1, .iadd, 0, 0, 0, []), (90, 3, .invokestatic 30, 0, 7, 5, []), (93, 2, .iload 6, 0, 6, 0, []), (95, 2, .iload 8, 0, 8, 0, []), (97, 1, .ior, 0, 0, 0, []), (98, 2, .istore 6, 0, 6, 0, []), (100, 0, .nop, 0, 0, 0, [(100,[true,true,true,false,true,true,true,true,false])])]
def bX1_forge_100 : List AOp := [(100, 3, .iinc 7 1, 1, 7, 0, []), (103, 3, .goto (-56), 0, 0, 0, [(47,[true,true,true,false,true,true,true,true,false])])]
def bX1_forge_106 : List AOp := [(106, 1, .return_, 0, 0, 0, [])]
def blX1_forge : List (Nat × List AOp) := [(0, bX1_forge_0), (7, bX1_forge_7), (19, bX1_forge_19), (20, bX1_forge_20), (35, bX1_forge_35), (41, bX1_forge_41), (47, bX1_forge_47), (54, bX1_forge_54), (73, bX1_forge_73), (100, bX1_forge_100), (106, bX1_forge_106)]
def bX1_keepBetter_0 : List AOp := [(0, 1, .aload_n 0, 0, 0, 0, []), (1, 1, .iload_n 1, 0, 1, 0, []), (2, 3, .invokevirtual 26, 0, 6, 2, [(1,[])]), (5, 1, .aload_n 0, 0, 0, 0, []), (6, 3, .getfield 23, 0, 1, 3, []), (9, 3, .invokestatic 47, 0, 103, 2, []), (12, 1, .istore_n 2, 0, 2, 0, []), (13, 1, .iload_n 2, 0, 2, 0, []), (14, 3, .ifCond .ne 18, 0, 0, 0, [(32,[true,true,true]), (17,[true,true,false])])]
def bX1_keepBetter_17 : List AOp := [(17, 1, .iload_n 1, 0, 1, 0, []), (18, 3, .invokestatic 53, 0, 104, 1, []), (21, 1, .aload_n 0, 0, 0, 0, []), (22, 3, .getfield 19, 0, 1, 2, []), (25, 3, .invokestatic 53, 0, 104, 1, []), (28, 3, .invokestatic 47, 0, 103, 2, []), (31, 1, .istore_n 2, 0, 2, 0, []), (32, 0, .nop, 0, 0, 0, [(32,[true,true,true])])]
def bX1_keepBetter_32 : List AOp := [(32, 1, .iload_n 2, 0, 2, 0, []), (33, 3, .ifCond .lt 15, 0, 0, 0, [(48,[true,true,false]), (36,[true,true,true])])]
def bX1_keepBetter_36 : List AOp := [(36, 1, .iload_n 2, 0, 2, 0, []), (37, 3, .ifCond .ne 25, 0, 0, 0, [(62,[false,false,false]), (40,[true,true,false])])]
def bX1_keepBetter_40 : List AOp := [(40, 1, .iload_n 1, 0, 1, 0, []), (41, 1, .aload_n 0, 0, 0, 0, []), (42, 3, .getfield 19, 0, 1, 2, []), (45, 3, .if_icmp .ge 17, 0, 0, 0, [(62,[false,false,false]), (48,[true,true,false])])]
def bX1_keepBetter_48 : List AOp := [(48, 1, .aload_n 0, 0, 0, 0, []), (49, 1, .iload_n 1, 0, 1, 0, []), (50, 3, .putfield 19, 0, 1, 2, []), (53, 1, .aload_n 0, 0, 0, 0, []), (54, 1, .aload_n 0, 0, 0, 0, []), (55, 1, .iload_n 1, 0, 1, 0, []), (56, 3, .invokevirtual 26, 0, 6, 2, [(1,[])]), (59, 3, .putfield 23, 0, 1, 3, []), (62, 0, .nop, 0, 0, 0, [(62,[false,false,false])])]
def bX1_keepBetter_62 : List AOp := [(62, 1, .return_, 0, 0, 0, [])]
def blX1_keepBetter : List (Nat × List AOp) := [(0, bX1_keepBetter_0), (17, bX1_keepBetter_17), (32, bX1_keepBetter_32), (36, bX1_keepBetter_36), (40, bX1_keepBetter_40), (48, bX1_keepBetter_48), (62, bX1_keepBetter_62)]
def bX2_areYears_0 : List AOp := [(0, 1, .iload_n 0, 0, 0, 0, []), (1, 3, .ifCond .lt 19, 0, 0, 0, [(20,[false,false]), (4,[true,true])])]
def bX2_areYears_4 : List AOp := [(4, 1, .iload_n 0, 0, 0, 0, []), (5, 1, .iload_n 1, 0, 1, 0, []), (6, 3, .if_icmp .gt 14, 0, 0, 0, [(20,[false,false]), (9,[false,true])])]
def bX2_areYears_9 : List AOp := [(9, 1, .iload_n 1, 0, 1, 0, []), (10, 3, .sipush 3000, 3000, 0, 0, []), (13, 3, .if_icmp .gt 7, 0, 0, 0, [(20,[false,false]), (16,[false,false])])]
def bX2_areYears_16 : List AOp := [(16, 1, .iconst 1, 1, 0, 0, []), (17, 3, .goto 4, 0, 0, 0, [(21,[false,false])])]
def bX2_areYears_20 : List AOp := [(20, 1, .iconst 0, 0, 0, 0, []), (21, 0, .nop, 0, 0, 0, [(21,[false,false])])]
def bX2_areYears_21 : List AOp := [(21, 1, .ireturn, 0, 0, 0, [])]
def blX2_areYears : List (Nat × List AOp) := [(0, bX2_areYears_0), (4, bX2_areYears_4), (9, bX2_areYears_9), (16, bX2_areYears_16), (20, bX2_areYears_20), (21, bX2_areYears_21)]
def bX2_has_0 : List AOp := [(0, 1, .iload_n 1, 0, 1, 0, []), (1, 3, .ifCond .lt 33, 0, 0, 0, [(34,[false,false]), (4,[true,true])])]
def bX2_has_4 : List AOp := [(4, 1, .iload_n 1, 0, 1, 0, []), (5, 1, .aload_n 0, 0, 0, 0, []), (6, 3, .getfield 24, 0, 2, 2, []), (9, 3, .if_icmp .ge 25, 0, 0, 0, [(34,[false,false]), (12,[true,true])])]
def bX2_has_12 : List AOp := [(12, 1, .iload_n 1, 0, 1, 0, []), (13, 1, .aload_n 0, 0, 0, 0, []), (14, 3, .getfield 15, 0, 2, 0, []), (17, 1, .arraylength, 0, 0, 0, []), (18, 3, .if_icmp .ge 16, 0, 0, 0, [(34,[false,false]), (21,[true,true])])]
def bX2_has_21 : List AOp := [(21, 1, .iload_n 1, 0, 1, 0, []), (22, 1, .aload_n 0, 0, 0, 0, []), (23, 3, .getfield 21, 0, 2, 1, []), (26, 1, .arraylength, 0, 0, 0, []), (27, 3, .if_icmp .ge 7, 0, 0, 0, [(34,[false,false]), (30,[false,false])])]
def bX2_has_30 : List AOp := [(30, 1, .iconst 1, 1, 0, 0, []), (31, 3, .goto 4, 0, 0, 0, [(35,[false,false])])]
def bX2_has_34 : List AOp := [(34, 1, .iconst 0, 0, 0, 0, []), (35, 0, .nop, 0, 0, 0, [(35,[false,false])])]
def bX2_has_35 : List AOp := [(35, 1, .ireturn, 0, 0, 0, [])]
def blX2_has : List (Nat × List AOp) := [(0, bX2_has_0), (4, bX2_has_4), (12, bX2_has_12), (21, bX2_has_21), (30, bX2_has_30), (34, bX2_has_34), (35, bX2_has_35)]
def bX2_add_0 : List AOp := [(0, 1, .iload_n 1, 0, 1, 0, []), (1, 1, .iload_n 2, 0, 2, 0, []), (2, 3, .invokestatic 28, 0, 9, 2, []), (5, 3, .ifCond .eq 15, 0, 0, 0, [(20,[false,false,false]), (8,[true,true,true])])]
def bX2_add_8 : List AOp := [(8, 1, .aload_n 0, 0, 0, 0, []), (9, 3, .getfield 24, 0, 2, 2, []), (12, 1, .aload_n 0, 0, 0, 0, []), (13, 3, .getfield 15, 0, 2, 0, []), (16, 1, .arraylength, 0, 0, 0, []), (17, 3, .if_icmp .lt 5, 0, 0, 0, [(22,[true,true,true]), (20,[false,false,false])])]
def bX2_add_20 : List AOp := [(20, 1, .iconst (-1), (-1), 0, 0, []), (21, 1, .ireturn, 0, 0, 0, [])]
def bX2_add_22 : List AOp := [(22, 1, .aload_n 0, 0, 0, 0, []), (23, 1, .dup, 0, 0, 0, []), (24, 3, .getfield 24, 0, 2, 2, []), (27, 1, .iconst 1, 1, 0, 0, []), (28, 1, .iadd, 0, 0, 0, []), (29, 3, .putfield 24, 0, 2, 2, []), (32, 1, .aload_n 0, 0, 0, 0, []), (33, 1, .aload_n 0, 0, 0, 0, []), (34, 3, .getfield 24, 0, 2, 2, []), (37, 1, .iconst 1, 1, 0, 0, []), (38, 1, .isub, 0, 0, 0, []), (39, 1, .iload_n 1, 0, 1, 0, []), (40, 1, .iload_n 2, 0, 2, 0, []), (41, 3, .invokevirtual 32, 0, 12, 4, [(2,[])]), (44, 1, .pop, 0, 0, 0, []), (45, 1, .aload_n 0, 0, 0, 0, []), (46, 3, .getfield 24, 0, 2, 2, []), (49, 1, .iconst 1, 1, 0, 0, []), (50, 1, .isub, 0, 0, 0, []), (51, 1, .ireturn, 0, 0, 0, [])]
def blX2_add : List (Nat × List AOp) := [(0, bX2_add_0), (8, bX2_add_8), (20, bX2_add_20), (22, bX2_add_22)]
def bX2_change_0 : List AOp := [(0, 1, .aload_n 0, 0, 0, 0, []), (1, 1, .iload_n 1, 0, 1, 0, []), (2, 3, .invokevirtual 36, 0, 10, 2, [(2,[])]), (5, 3, .ifCond .eq 11, 0, 0, 0, [(16,[false,false,false,false]), (8,[true,true,true,true])])]
def bX2_change_8 : List AOp := [(8, 1, .iload_n 2, 0, 2, 0, []), (9, 1, .iload_n 3, 0, 3, 0, []), (10, 3, .invokestatic 28, 0, 9, 2, []), (13, 3, .ifCond .ne 5, 0, 0, 0, [(18,[true,true,true,true]), (16,[false,false,false,false])])]
def bX2_change_16 : List AOp := [(16, 1, .iconst 0, 0, 0, 0, []), (17, 1, .ireturn, 0, 0, 0, [])]
def bX2_change_18 : List AOp := [(18, 1, .aload_n 0, 0, 0, 0, []), (19, 3, .getfield 15, 0, 2, 0, []), (22, 1, .iload_n 1, 0, 1, 0, []), (23, 1, .iload_n 2, 0, 2, 0, []), (24, 1, .iastore, 0, 0, 0, []), (25, 1, .aload_n 0, 0, 0, 0, []), (26, 3, .getfield 21, 0, 2, 1, []), (29, 1, .iload_n 1, 0, 1, 0, []), (30, 1, .iload_n 3, 0, 3, 0, []), (31, 1, .iastore, 0, 0, 0, []), (32, 1, .iconst 1, 1, 0, 0, []), (33, 1, .ireturn, 0, 0, 0, [])]
def blX2_change : List (Nat × List AOp) := [(0, bX2_change_0), (8, bX2_change_8), (16, bX2_change_16), (18, bX2_change_18)]
def bX2_latestStart_0 : List AOp := [(0, 1, .iload_n 2, 0, 2, 0, []), (1, 1, .istore_n 3, 0, 3, 0, []), (2, 1, .iconst 0, 0, 0, 0, []), (3, 2, .istore 4, 0, 4, 0, []), (5, 0, .nop, 0, 0, 0, [(5,[true,true,false,true,true])])]
def bX2_latestStart_5 : List AOp := [(5, 2, .iload 4, 0, 4, 0, []), (7, 1, .aload_n 0, 0, 0, 0, []), (8, 3, .getfield 15, 0, 2, 0, []), (11, 1, .arraylength, 0, 0, 0, []), (12, 3, .if_icmp .ge 30, 0, 0, 0, [(42,[false,false,false,true,false]), (15,[true,true,false,true,true])])]
def bX2_latestStart_15 : List AOp := [(15, 1, .iload_n 1, 0, 1, 0, []), (16, 2, .iload 4, 0, 4, 0, []), (18, 3, .invokestatic 40, 0, 49, 2, []), (21, 3, .ifCond .eq 15, 0, 0, 0, [(36,[true,true,false,true,true]), (24,[true,true,false,true,true])])]
def bX2_latestStart_24 : List AOp := [(24, 1, .iload_n 3, 0, 3, 0, []), (25, 1, .aload_n 0, 0, 0, 0, []), (26, 3, .getfield 15, 0, 2, 0, []), (29, 2, .iload 4, 0, 4, 0, []), (31, 1, .iaload, 0, 0, 0, []), (32, 3, .invokestatic 9, 0, 0, 0, [(1,[])]), (35, 1, .istore_n 3, 0, 3, 0, []), (36, 0, .nop, 0, 0, 0, [(36,[true,true,false,true,true])])]
def bX2_latestStart_36 : List AOp := [(36, 3, .iinc 4 1, 1, 4, 0, []), (39, 3, .goto (-34), 0, 0, 0, [(5,[true,true,false,true,true])])]
def bX2_latestStart_42 : List AOp := [(42, 1, .iload_n 3, 0, 3, 0, []), (43, 1, .ireturn, 0, 0, 0, [])]
def blX2_latestStart : List (Nat × List AOp) := [(0, bX2_latestStart_0), (5, bX2_latestStart_5), (15, bX2_latestStart_15), (24, bX2_latestStart_24), (36, bX2_latestStart_36), (42, bX2_latestStart_42)]
def bX2_earliestEnd_0 : List AOp := [(0, 1, .iload_n 2, 0, 2, 0, []), (1, 1, .istore_n 3, 0, 3, 0, []), (2, 1, .iconst 0, 0, 0, 0, []), (3, 2, .istore 4, 0, 4, 0, []), (5, 0, .nop, 0, 0, 0, [(5,[true,true,false,true,true])])]
def bX2_earliestEnd_5 : List AOp := [(5, 2, .iload 4, 0, 4, 0, []), (7, 1, .aload_n 0, 0, 0, 0, []), (8, 3, .getfield 21, 0, 2, 1, []), (11, 1, .arraylength, 0, 0, 0, []), (12, 3, .if_icmp .ge 30, 0, 0, 0, [(42,[false,false,false,true,false]), (15,[true,true,false,true,true])])]
def bX2_earliestEnd_15 : List AOp := [(15, 1, .iload_n 1, 0, 1, 0, []), (16, 2, .iload 4, 0, 4, 0, []), (18, 3, .invokestatic 40, 0, 49, 2, []), (21, 3, .ifCond .eq 15, 0, 0, 0, [(36,[true,true,false,true,true]), (24,[true,true,false,true,true])])]
def bX2_earliestEnd_24 : List AOp := [(24, 1, .iload_n 3, 0, 3, 0, []), (25, 1, .aload_n 0, 0, 0, 0, []), (26, 3, .getfield 21, 0, 2, 1, []), (29, 2, .iload 4, 0, 4, 0, []), (31, 1, .iaload, 0, 0, 0, []), (32, 3, .invokestatic 43, 0, 0, 0, [(2,[])]), (35, 1, .istore_n 3, 0, 3, 0, []), (36, 0, .nop, 0, 0, 0, [(36,[true,true,false,true,true])])]
def bX2_earliestEnd_36 : List AOp := [(36, 3, .iinc 4 1, 1, 4, 0, []), (39, 3, .goto (-34), 0, 0, 0, [(5,[true,true,false,true,true])])]
def bX2_earliestEnd_42 : List AOp := [(42, 1, .iload_n 3, 0, 3, 0, []), (43, 1, .ireturn, 0, 0, 0, [])]
def blX2_earliestEnd : List (Nat × List AOp) := [(0, bX2_earliestEnd_0), (5, bX2_earliestEnd_5), (15, bX2_earliestEnd_15), (24, bX2_earliestEnd_24), (36, bX2_earliestEnd_36), (42, bX2_earliestEnd_42)]
def bX3_roundsToBreak_0 : List AOp := [(0, 1, .iconst 0, 0, 0, 0, []), (1, 1, .istore_n 2, 0, 2, 0, []), (2, 0, .nop, 0, 0, 0, [(2,[true,true,true])])]
def bX3_roundsToBreak_2 : List AOp := [(2, 1, .iload_n 2, 0, 2, 0, []), (3, 2, .bipush 12, 12, 0, 0, []), (5, 3, .if_icmp .ge 28, 0, 0, 0, [(33,[true,true,false]), (8,[true,true,true])])]
def bX3_roundsToBreak_8 : List AOp := [(8, 1, .aload_n 0, 0, 0, 0, []), (9, 3, .getfield 30, 0, 3, 6, []), (12, 1, .iload_n 2, 0, 2, 0, []), (13, 1, .aload_n 0, 0, 0, 0, []), (14, 3, .getfield 15, 0, 3, 1, []), (17, 1, .iload_n 2, 0, 2, 0, []), (18, 1, .iaload, 0, 0, 0, []), (19, 1, .iastore, 0, 0, 0, []), (20, 1, .aload_n 0, 0, 0, 0, []), (21, 3, .getfield 36, 0, 3, 8, []), (24, 1, .iload_n 2, 0, 2, 0, []), (25, 1, .iconst (-1), (-1), 0, 0, []), (26, 1, .iastore, 0, 0, 0, []), (27, 3, .iinc 2 1, 1, 2, 0, []), (30, 3, .goto (-28), 0, 0, 0, [(2,[true,true,true])])]
def bX3_roundsToBreak_33 : List AOp := [(33, 1, .iconst 0, 0, 0, 0, []), (34, 1, .istore_n 2, 0, 2, 0, []), (35, 0, .nop, 0, 0, 0, [(35,[true,true,true])])]
def bX3_roundsToBreak_35 : List AOp := [(35, 1, .iload_n 2, 0, 2, 0, []), (36, 2, .bipush 12, 12, 0, 0, []), (38, 3, .if_icmp .gt 38, 0, 0, 0, [(76,[false,false,false]), (41,[true,true,true])])]
def bX3_roundsToBreak_41 : List AOp := [(41, 1, .aload_n 0, 0, 0, 0, []), (42, 1, .aload_n 0, 0, 0, 0, []), (43, 1, .iload_n 1, 0, 1, 0, []), (44, 3, .invokevirtual 46, 0, 16, 2, [(3,[])]), (47, 3, .putfield 43, 0, 3, 10, []), (50, 1, .aload_n 0, 0, 0, 0, []), (51, 3, .getfield 43, 0, 3, 10, []), (54, 1, .iconst (-1), (-1), 0, 0, []), (55, 3, .if_icmp .eq 5, 0, 0, 0, [(60,[true,true,true]), (58,[false,false,true])])]
def bX3_roundsToBreak_58 : List AOp := [(58, 1, .iload_n 2, 0, 2, 0, []), (59, 1, .ireturn, 0, 0, 0, [])]
def bX3_roundsToBreak_60 : List AOp := [(60, 1, .aload_n 0, 0, 0, 0, []), (61, 1, .iload_n 1, 0, 1, 0, []), (62, 3, .invokevirtual 50, 0, 17, 2, [(3,[])]), (65, 3, .ifCond .ne 5, 0, 0, 0, [(70,[true,true,true]), (68,[false,false,false])])]
def bX3_roundsToBreak_68 : List AOp := [(68, 1, .iconst (-1), (-1), 0, 0, []), (69, 1, .ireturn, 0, 0, 0, [])]
def bX3_roundsToBreak_70 : List AOp := [(70, 3, .iinc 2 1, 1, 2, 0, []), (73, 3, .goto (-38), 0, 0, 0, [(35,[true,true,true])])]
def bX3_roundsToBreak_76 : List AOp := [(76, 1, .iconst (-1), (-1), 0, 0, []), (77, 1, .ireturn, 0, 0, 0, [])]
def blX3_roundsToBreak : List (Nat × List AOp) := [(0, bX3_roundsToBreak_0), (2, bX3_roundsToBreak_2), (8, bX3_roundsToBreak_8), (33, bX3_roundsToBreak_33), (35, bX3_roundsToBreak_35), (41, bX3_roundsToBreak_41), (58, bX3_roundsToBreak_58), (60, bX3_roundsToBreak_60), (68, bX3_roundsToBreak_68), (70, bX3_roundsToBreak_70), (76, bX3_roundsToBreak_76)]
def bX3_firstBroken_0 : List AOp := [(0, 1, .iconst 0, 0, 0, 0, []), (1, 1, .istore_n 2, 0, 2, 0, []), (2, 0, .nop, 0, 0, 0, [(2,[true,true,true])])]
def bX3_firstBroken_2 : List AOp := [(2, 1, .iload_n 2, 0, 2, 0, []), (3, 2, .bipush 12, 12, 0, 0, []), (5, 3, .if_icmp .ge 34, 0, 0, 0, [(39,[false,false,false]), (8,[true,true,true])])]
def bX3_firstBroken_8 : List AOp := [(8, 1, .iload_n 1, 0, 1, 0, []), (9, 1, .iload_n 2, 0, 2, 0, []), (10, 3, .invokestatic 54, 0, 49, 2, []), (13, 3, .ifCond .eq 20, 0, 0, 0, [(33,[true,true,true]), (16,[true,true,true])])]
def bX3_firstBroken_16 : List AOp := [(16, 1, .aload_n 0, 0, 0, 0, []), (17, 3, .getfield 30, 0, 3, 6, []), (20, 1, .iload_n 2, 0, 2, 0, []), (21, 1, .iaload, 0, 0, 0, []), (22, 1, .aload_n 0, 0, 0, 0, []), (23, 3, .getfield 9, 0, 3, 0, []), (26, 1, .iload_n 2, 0, 2, 0, []), (27, 1, .iaload, 0, 0, 0, []), (28, 3, .if_icmp .ge 5, 0, 0, 0, [(33,[true,true,true]), (31,[false,false,true])])]
def bX3_firstBroken_31 : List AOp := [(31, 1, .iload_n 2, 0, 2, 0, []), (32, 1, .ireturn, 0, 0, 0, [])]
def bX3_firstBroken_33 : List AOp := [(33, 3, .iinc 2 1, 1, 2, 0, []), (36, 3, .goto (-34), 0, 0, 0, [(2,[true,true,true])])]
def bX3_firstBroken_39 : List AOp := [(39, 1, .iconst (-1), (-1), 0, 0, []), (40, 1, .ireturn, 0, 0, 0, [])]
def blX3_firstBroken : List (Nat × List AOp) := [(0, bX3_firstBroken_0), (2, bX3_firstBroken_2), (8, bX3_firstBroken_8), (16, bX3_firstBroken_16), (31, bX3_firstBroken_31), (33, bX3_firstBroken_33), (39, bX3_firstBroken_39)]
def bX3_lowerOnce_0 : List AOp := [(0, 1, .aload_n 0, 0, 0, 0, []), (1, 3, .getfield 30, 0, 3, 6, []), (4, 1, .iconst 0, 0, 0, 0, []), (5, 1, .aload_n 0, 0, 0, 0, []), (6, 3, .getfield 33, 0, 3, 7, []), (9, 1, .iconst 0, 0, 0, 0, []), (10, 2, .bipush 12, 12, 0, 0, []), (12, 3, .invokestatic 58, 0, 0, 0, [(0,[])]), (15, 1, .iconst 0, 0, 0, 0, []), (16, 1, .istore_n 2, 0, 2, 0, []), (17, 1, .iconst 0, 0, 0, 0, []), (18, 1, .istore_n 3, 0, 3, 0, []), (19, 0, .nop, 0, 0, 0, [(19,[true,true,true,true,false,false,false])])]
def bX3_lowerOnce_19 : List AOp := [(19, 1, .iload_n 3, 0, 3, 0, []), (20, 2, .bipush 12, 12, 0, 0, []), (22, 3, .if_icmp .ge 136, 0, 0, 0, [(158,[false,false,true,false,false,false,false]), (25,[true,true,true,true,false,false,false])])]
def bX3_lowerOnce_25 : List AOp := [(25, 1, .iload_n 1, 0, 1, 0, []), (26, 1, .iload_n 3, 0, 3, 0, []), (27, 3, .invokestatic 54, 0, 49, 2, []), (30, 3, .ifCond .eq 21, 0, 0, 0, [(51,[true,true,true,true,false,false,false]), (33,[true,true,true,true,false,false,false])])]
def bX3_lowerOnce_33 : List AOp := [(33, 1, .aload_n 0, 0, 0, 0, []), (34, 3, .getfield 18, 0, 3, 2, []), (37, 1, .iload_n 3, 0, 3, 0, []), (38, 1, .iaload, 0, 0, 0, []), (39, 1, .aload_n 0, 0, 0, 0, []), (40, 3, .getfield 21, 0, 3, 3, []), (43, 1, .iload_n 3, 0, 3, 0, []), (44, 1, .iaload, 0, 0, 0, []), (45, 1, .ior, 0, 0, 0, []), (46, 1, .iload_n 1, 0, 1, 0, []), (47, 1, .iand, 0, 0, 0, []), (48, 3, .goto 4, 0, 0, 0, [(52,[true,true,true,true,false,false,false])])]
def bX3_lowerOnce_51 : List AOp := [(51, 1, .iconst 0, 0, 0, 0, []), (52, 0, .nop, 0, 0, 0, [(52,[true,true,true,true,false,false,false])])]
def bX3_lowerOnce_52 : List AOp := [(52, 2, .istore 4, 0, 4, 0, []), (54, 1, .iconst 0, 0, 0, 0, []), (55, 2, .istore 5, 0, 5, 0, []), (57, 0, .nop, 0, 0, 0, [(57,[true,true,true,true,true,true,false])])]
def bX3_lowerOnce_57 : List AOp := [(57, 2, .iload 5, 0, 5, 0, []), (59, 2, .bipush 12, 12, 0, 0, []), (61, 3, .if_icmp .ge 91, 0, 0, 0, [(152,[true,true,true,true,false,false,false]), (64,[true,true,true,true,true,true,false])])]
def bX3_lowerOnce_64 : List AOp := [(64, 2, .iload 4, 0, 4, 0, []), (66, 3, .ifCond .eq 86, 0, 0, 0, [(152,[true,true,true,true,false,false,false]), (69,[true,true,true,true,true,true,false])])]
def bX3_lowerOnce_69 : List AOp := [(69, 1, .aload_n 0, 0, 0, 0, []), (70, 3, .getfield 21, 0, 3, 3, []), (73, 1, .iload_n 3, 0, 3, 0, []), (74, 1, .iaload, 0, 0, 0, []), (75, 2, .iload 5, 0, 5, 0, []), (77, 3, .invokestatic 54, 0, 49, 2, []), (80, 3, .ifCond .eq 12, 0, 0, 0, [(92,[true,true,true,true,true,true,false]), (83,[true,true,true,true,true,true,false])])]
def bX3_lowerOnce_83 : List AOp := [(83, 1, .aload_n 0, 0, 0, 0, []), (84, 3, .getfield 33, 0, 3, 7, []), (87, 1, .iload_n 3, 0, 3, 0, []), (88, 1, .iaload, 0, 0, 0, []), (89, 3, .goto 14, 0, 0, 0, [(103,[true,true,true,true,true,true,false])])]
def bX3_lowerOnce_92 : List AOp := [(92, 1, .aload_n 0, 0, 0, 0, []), (93, 3, .getfield 33, 0, 3, 7, []), (96, 1, .iload_n 3, 0, 3, 0, []), (97, 1, .iaload, 0, 0, 0, []), (98, 1, .aload_n 0, 0, 0, 0, []), (99, 3, .getfield 39, 0, 3, 9, []), (102, 1, .iadd, 0, 0, 0, []), (103, 0, .nop, 0, 0, 0, [(103,[true,true,true,true,true,true,false])])]
def bX3_lowerOnce_103 : List AOp := [(103, 2, .istore 6, 0, 6, 0, []), (105, 2, .iload 4, 0, 4, 0, []), (107, 2, .iload 5, 0, 5, 0, []), (109, 3, .invokestatic 54, 0, 49, 2, []), (112, 3, .ifCond .eq 34, 0, 0, 0, [(146,[true,true,true,true,true,true,false]), (115,[true,true,true,true,true,true,true])])]
def bX3_lowerOnce_115 : List AOp := [(115, 1, .aload_n 0, 0, 0, 0, []), (116, 3, .getfield 30, 0, 3, 6, []), (119, 2, .iload 5, 0, 5, 0, []), (121, 1, .iaload, 0, 0, 0, []), (122, 2, .iload 6, 0, 6, 0, []), (124, 3, .if_icmp .le 22, 0, 0, 0, [(146,[true,true,true,true,true,true,false]), (127,[true,true,false,true,true,true,true])])]
def bX3_lowerOnce_127 : List AOp := [(127, 1, .aload_n 0, 0, 0, 0, []), (128, 3, .getfield 30, 0, 3, 6, []), (131, 2, .iload 5, 0, 5, 0, []), (133, 2, .iload 6, 0, 6, 0, []), (135, 1, .iastore, 0, 0, 0, []), (136, 1, .aload_n 0, 0, 0, 0, []), (137, 3, .getfield 36, 0, 3, 8, []), (140, 2, .iload 5, 0, 5, 0, []), (142, 1, .iload_n 3, 0, 3, 0, []), (143, 1, .iastore, 0, 0, 0, []), (144, 1, .iconst 1, 1, 0, 0, []), (145, 1, .istore_n 2, 0, 2, 0, []), (146, 0, .nop, 0, 0, 0, [(146,[true,true,true,true,true,true,false])])]
def bX3_lowerOnce_146 : List AOp := [(146, 3, .iinc 5 1, 1, 5, 0, []), (149, 3, .goto (-92), 0, 0, 0, [(57,[true,true,true,true,true,true,false])])]
def bX3_lowerOnce_152 : List AOp := [(152, 3, .iinc 3 1, 1, 3, 0, []), (155, 3, .goto (-136), 0, 0, 0, [(19,[true,true,true,true,false,false,false])])]
def bX3_lowerOnce_158 : List AOp := [(158, 1, .iload_n 2, 0, 2, 0, []), (159, 1, .ireturn, 0, 0, 0, [])]
def blX3_lowerOnce : List (Nat × List AOp) := [(0, bX3_lowerOnce_0), (19, bX3_lowerOnce_19), (25, bX3_lowerOnce_25), (33, bX3_lowerOnce_33), (51, bX3_lowerOnce_51), (52, bX3_lowerOnce_52), (57, bX3_lowerOnce_57), (64, bX3_lowerOnce_64), (69, bX3_lowerOnce_69), (83, bX3_lowerOnce_83), (92, bX3_lowerOnce_92), (103, bX3_lowerOnce_103), (115, bX3_lowerOnce_115), (127, bX3_lowerOnce_127), (146, bX3_lowerOnce_146), (152, bX3_lowerOnce_152), (158, bX3_lowerOnce_158)]
def bX3_raiseOnce_0 : List AOp := [(0, 1, .iconst 0, 0, 0, 0, []), (1, 1, .istore_n 2, 0, 2, 0, []), (2, 1, .iconst 0, 0, 0, 0, []), (3, 1, .istore_n 3, 0, 3, 0, []), (4, 0, .nop, 0, 0, 0, [(4,[true,true,true,true,false,false,false])])]
def bX3_raiseOnce_4 : List AOp := [(4, 1, .iload_n 3, 0, 3, 0, []), (5, 2, .bipush 12, 12, 0, 0, []), (7, 3, .if_icmp .ge 128, 0, 0, 0, [(135,[false,false,true,false,false,false,false]), (10,[true,true,true,true,false,false,false])])]
def bX3_raiseOnce_10 : List AOp := [(10, 1, .iload_n 1, 0, 1, 0, []), (11, 1, .iload_n 3, 0, 3, 0, []), (12, 3, .invokestatic 54, 0, 49, 2, []), (15, 3, .ifCond .eq 21, 0, 0, 0, [(36,[true,true,true,true,false,false,false]), (18,[true,true,true,true,false,false,false])])]
def bX3_raiseOnce_18 : List AOp := [(18, 1, .aload_n 0, 0, 0, 0, []), (19, 3, .getfield 18, 0, 3, 2, []), (22, 1, .iload_n 3, 0, 3, 0, []), (23, 1, .iaload, 0, 0, 0, []), (24, 1, .aload_n 0, 0, 0, 0, []), (25, 3, .getfield 21, 0, 3, 3, []), (28, 1, .iload_n 3, 0, 3, 0, []), (29, 1, .iaload, 0, 0, 0, []), (30, 1, .ior, 0, 0, 0, []), (31, 1, .iload_n 1, 0, 1, 0, []), (32, 1, .iand, 0, 0, 0, []), (33, 3, .goto 4, 0, 0, 0, [(37,[true,true,true,true,false,false,false])])]
def bX3_raiseOnce_36 : List AOp := [(36, 1, .iconst 0, 0, 0, 0, []), (37, 0, .nop, 0, 0, 0, [(37,[true,true,true,true,false,false,false])])]
def bX3_raiseOnce_37 : List AOp := [(37, 2, .istore 4, 0, 4, 0, []), (39, 1, .iconst 0, 0, 0, 0, []), (40, 2, .istore 5, 0, 5, 0, []), (42, 0, .nop, 0, 0, 0, [(42,[true,true,true,true,true,true,false])])]
def bX3_raiseOnce_42 : List AOp := [(42, 2, .iload 5, 0, 5, 0, []), (44, 2, .bipush 12, 12, 0, 0, []), (46, 3, .if_icmp .ge 83, 0, 0, 0, [(129,[true,true,true,true,false,false,false]), (49,[true,true,true,true,true,true,false])])]
def bX3_raiseOnce_49 : List AOp := [(49, 2, .iload 4, 0, 4, 0, []), (51, 3, .ifCond .eq 78, 0, 0, 0, [(129,[true,true,true,true,false,false,false]), (54,[true,true,true,true,true,true,false])])]
def bX3_raiseOnce_54 : List AOp := [(54, 1, .aload_n 0, 0, 0, 0, []), (55, 3, .getfield 21, 0, 3, 3, []), (58, 1, .iload_n 3, 0, 3, 0, []), (59, 1, .iaload, 0, 0, 0, []), (60, 2, .iload 5, 0, 5, 0, []), (62, 3, .invokestatic 54, 0, 49, 2, []), (65, 3, .ifCond .eq 13, 0, 0, 0, [(78,[true,true,true,true,true,true,false]), (68,[true,true,true,true,true,true,false])])]
def bX3_raiseOnce_68 : List AOp := [(68, 1, .aload_n 0, 0, 0, 0, []), (69, 3, .getfield 24, 0, 3, 4, []), (72, 2, .iload 5, 0, 5, 0, []), (74, 1, .iaload, 0, 0, 0, []), (75, 3, .goto 15, 0, 0, 0, [(90,[true,true,true,true,true,true,false])])]
def bX3_raiseOnce_78 : List AOp := [(78, 1, .aload_n 0, 0, 0, 0, []), (79, 3, .getfield 24, 0, 3, 4, []), (82, 2, .iload 5, 0, 5, 0, []), (84, 1, .iaload, 0, 0, 0, []), (85, 1, .aload_n 0, 0, 0, 0, []), (86, 3, .getfield 39, 0, 3, 9, []), (89, 1, .isub, 0, 0, 0, []), (90, 0, .nop, 0, 0, 0, [(90,[true,true,true,true,true,true,false])])]
def bX3_raiseOnce_90 : List AOp := [(90, 2, .istore 6, 0, 6, 0, []), (92, 2, .iload 4, 0, 4, 0, []), (94, 2, .iload 5, 0, 5, 0, []), (96, 3, .invokestatic 54, 0, 49, 2, []), (99, 3, .ifCond .eq 24, 0, 0, 0, [(123,[true,true,true,true,true,true,false]), (102,[true,true,true,true,true,true,true])])]
def bX3_raiseOnce_102 : List AOp := [(102, 1, .aload_n 0, 0, 0, 0, []), (103, 3, .getfield 24, 0, 3, 4, []), (106, 1, .iload_n 3, 0, 3, 0, []), (107, 1, .iaload, 0, 0, 0, []), (108, 2, .iload 6, 0, 6, 0, []), (110, 3, .if_icmp .ge 13, 0, 0, 0, [(123,[true,true,true,true,true,true,false]), (113,[true,true,false,true,true,true,true])])]
def bX3_raiseOnce_113 : List AOp := [(113, 1, .aload_n 0, 0, 0, 0, []), (114, 3, .getfield 24, 0, 3, 4, []), (117, 1, .iload_n 3, 0, 3, 0, []), (118, 2, .iload 6, 0, 6, 0, []), (120, 1, .iastore, 0, 0, 0, []), (121, 1, .iconst 1, 1, 0, 0, []), (122, 1, .istore_n 2, 0, 2, 0, []), (123, 0, .nop, 0, 0, 0, [(123,[true,true,true,true,true,true,false])])]
def bX3_raiseOnce_123 : List AOp := [(123, 3, .iinc 5 1, 1, 5, 0, []), (126, 3, .goto (-84), 0, 0, 0, [(42,[true,true,true,true,true,true,false])])]
def bX3_raiseOnce_129 : List AOp := [(129, 3, .iinc 3 1, 1, 3, 0, []), (132, 3, .goto (-128), 0, 0, 0, [(4,[true,true,true,true,false,false,false])])]
def bX3_raiseOnce_135 : List AOp := [(135, 1, .iload_n 2, 0, 2, 0, []), (136, 1, .ireturn, 0, 0, 0, [])]
def blX3_raiseOnce : List (Nat × List AOp) := [(0, bX3_raiseOnce_0), (4, bX3_raiseOnce_4), (10, bX3_raiseOnce_10), (18, bX3_raiseOnce_18), (36, bX3_raiseOnce_36), (37, bX3_raiseOnce_37), (42, bX3_raiseOnce_42), (49, bX3_raiseOnce_49), (54, bX3_raiseOnce_54), (68, bX3_raiseOnce_68), (78, bX3_raiseOnce_78), (90, bX3_raiseOnce_90), (102, bX3_raiseOnce_102), (113, bX3_raiseOnce_113), (123, bX3_raiseOnce_123), (129, bX3_raiseOnce_129), (135, bX3_raiseOnce_135)]
def bX3_conflictIn_0 : List AOp := [(0, 1, .aload_n 0, 0, 0, 0, []), (1, 1, .iload_n 1, 0, 1, 0, []), (2, 3, .invokevirtual 64, 0, 15, 2, [(3,[])]), (5, 1, .iconst (-1), (-1), 0, 0, []), (6, 3, .if_icmp .ne 5, 0, 0, 0, [(11,[true,false,false,false,false]), (9,[false,false,false,false,false])])]
def bX3_conflictIn_9 : List AOp := [(9, 1, .iconst 0, 0, 0, 0, []), (10, 1, .ireturn, 0, 0, 0, [])]
def bX3_conflictIn_11 : List AOp := [(11, 1, .iconst 0, 0, 0, 0, []), (12, 1, .istore_n 2, 0, 2, 0, []), (13, 1, .aload_n 0, 0, 0, 0, []), (14, 3, .getfield 43, 0, 3, 10, []), (17, 1, .istore_n 3, 0, 3, 0, []), (18, 1, .iconst 0, 0, 0, 0, []), (19, 2, .istore 4, 0, 4, 0, []), (21, 0, .nop, 0, 0, 0, [(21,[true,false,true,true,true])])]
def bX3_conflictIn_21 : List AOp := [(21, 2, .iload 4, 0, 4, 0, []), (23, 2, .bipush 12, 12, 0, 0, []), (25, 3, .if_icmp .ge 32, 0, 0, 0, [(57,[false,false,true,false,false]), (28,[true,false,true,true,true])])]
def bX3_conflictIn_28 : List AOp := [(28, 1, .iload_n 3, 0, 3, 0, []), (29, 3, .ifCond .lt 28, 0, 0, 0, [(57,[false,false,true,false,false]), (32,[true,false,true,true,true])])]
def bX3_conflictIn_32 : List AOp := [(32, 1, .iload_n 3, 0, 3, 0, []), (33, 2, .bipush 12, 12, 0, 0, []), (35, 3, .if_icmp .ge 22, 0, 0, 0, [(57,[false,false,true,false,false]), (38,[true,false,true,true,true])])]
def bX3_conflictIn_38 : List AOp := [(38, 1, .iload_n 2, 0, 2, 0, []), (39, 1, .iconst 1, 1, 0, 0, []), (40, 1, .iload_n 3, 0, 3, 0, []), (41, 1, .ishl, 0, 0, 0, []), (42, 1, .ior, 0, 0, 0, []), (43, 1, .istore_n 2, 0, 2, 0, []), (44, 1, .aload_n 0, 0, 0, 0, []), (45, 3, .getfield 36, 0, 3, 8, []), (48, 1, .iload_n 3, 0, 3, 0, []), (49, 1, .iaload, 0, 0, 0, []), (50, 1, .istore_n 3, 0, 3, 0, []), (51, 3, .iinc 4 1, 1, 4, 0, []), (54, 3, .goto (-33), 0, 0, 0, [(21,[true,false,true,true,true])])]
def bX3_conflictIn_57 : List AOp := [(57, 1, .iload_n 2, 0, 2, 0, []), (58, 1, .ireturn, 0, 0, 0, [])]
def blX3_conflictIn : List (Nat × List AOp) := [(0, bX3_conflictIn_0), (9, bX3_conflictIn_9), (11, bX3_conflictIn_11), (21, bX3_conflictIn_21), (28, bX3_conflictIn_28), (32, bX3_conflictIn_32), (38, bX3_conflictIn_38), (57, bX3_conflictIn_57)]
def bX3_quarrelIn_0 : List AOp := [(0, 1, .aload_n 0, 0, 0, 0, []), (1, 1, .iload_n 1, 0, 1, 0, []), (2, 3, .invokevirtual 64, 0, 15, 2, [(3,[])]), (5, 1, .istore_n 2, 0, 2, 0, []), (6, 1, .iload_n 2, 0, 2, 0, []), (7, 1, .iconst (-1), (-1), 0, 0, []), (8, 3, .if_icmp .ne 5, 0, 0, 0, [(13,[true,true,true,false,false,false]), (11,[false,false,false,false,false,false])])]
def bX3_quarrelIn_11 : List AOp := [(11, 1, .iconst 0, 0, 0, 0, []), (12, 1, .ireturn, 0, 0, 0, [])]
def bX3_quarrelIn_13 : List AOp := [(13, 1, .iload_n 1, 0, 1, 0, []), (14, 1, .istore_n 3, 0, 3, 0, []), (15, 2, .bipush 11, 11, 0, 0, []), (17, 2, .istore 4, 0, 4, 0, []), (19, 0, .nop, 0, 0, 0, [(19,[true,false,true,true,true,false])])]
def bX3_quarrelIn_19 : List AOp := [(19, 2, .iload 4, 0, 4, 0, []), (21, 3, .ifCond .lt 38, 0, 0, 0, [(59,[false,false,false,true,false,false]), (24,[true,false,true,true,true,false])])]
def bX3_quarrelIn_24 : List AOp := [(24, 1, .iload_n 3, 0, 3, 0, []), (25, 1, .iconst 1, 1, 0, 0, []), (26, 2, .iload 4, 0, 4, 0, []), (28, 1, .ishl, 0, 0, 0, []), (29, 1, .iconst (-1), (-1), 0, 0, []), (30, 1, .ixor, 0, 0, 0, []), (31, 1, .iand, 0, 0, 0, []), (32, 2, .istore 5, 0, 5, 0, []), (34, 2, .iload 5, 0, 5, 0, []), (36, 1, .iload_n 3, 0, 3, 0, []), (37, 3, .if_icmp .eq 16, 0, 0, 0, [(53,[true,false,true,true,true,false]), (40,[true,false,true,true,true,true])])]
def bX3_quarrelIn_40 : List AOp := [(40, 1, .aload_n 0, 0, 0, 0, []), (41, 2, .iload 5, 0, 5, 0, []), (43, 3, .invokevirtual 64, 0, 15, 2, [(3,[])]), (46, 1, .iload_n 2, 0, 2, 0, []), (47, 3, .if_icmp .ne 6, 0, 0, 0, [(53,[true,false,true,true,true,false]), (50,[true,false,true,false,true,true])])]
def bX3_quarrelIn_50 : List AOp := [(50, 2, .iload 5, 0, 5, 0, []), (52, 1, .istore_n 3, 0, 3, 0, []), (53, 0, .nop, 0, 0, 0, [(53,[true,false,true,true,true,false])])]
def bX3_quarrelIn_53 : List AOp := [(53, 3, .iinc 4 (-1), (-1), 4, 0, []), (56, 3, .goto (-37), 0, 0, 0, [(19,[true,false,true,true,true,false])])]
def bX3_quarrelIn_59 : List AOp := [(59, 1, .iload_n 3, 0, 3, 0, []), (60, 1, .ireturn, 0, 0, 0, [])]
def blX3_quarrelIn : List (Nat × List AOp) := [(0, bX3_quarrelIn_0), (11, bX3_quarrelIn_11), (13, bX3_quarrelIn_13), (19, bX3_quarrelIn_19), (24, bX3_quarrelIn_24), (40, bX3_quarrelIn_40), (50, bX3_quarrelIn_50), (53, bX3_quarrelIn_53), (59, bX3_quarrelIn_59)]
def bX3_keepYears_0 : List AOp := [(0, 1, .aload_n 0, 0, 0, 0, []), (1, 1, .iload_n 1, 0, 1, 0, []), (2, 3, .invokevirtual 64, 0, 15, 2, [(3,[])]), (5, 1, .pop, 0, 0, 0, []), (6, 1, .aload_n 0, 0, 0, 0, []), (7, 3, .getfield 30, 0, 3, 6, []), (10, 1, .iconst 0, 0, 0, 0, []), (11, 1, .aload_n 0, 0, 0, 0, []), (12, 3, .getfield 27, 0, 3, 5, []), (15, 1, .iconst 0, 0, 0, 0, []), (16, 2, .bipush 12, 12, 0, 0, []), (18, 3, .invokestatic 58, 0, 0, 0, [(0,[])]), (21, 1, .aload_n 0, 0, 0, 0, []), (22, 3, .getfield 9, 0, 3, 0, []), (25, 1, .iconst 0, 0, 0, 0, []), (26, 1, .aload_n 0, 0, 0, 0, []), (27, 3, .getfield 24, 0, 3, 4, []), (30, 1, .iconst 0, 0, 0, 0, []), (31, 2, .bipush 12, 12, 0, 0, []), (33, 3, .invokestatic 58, 0, 0, 0, [(0,[])]), (36, 1, .iconst 0, 0, 0, 0, []), (37, 1, .istore_n 2, 0, 2, 0, []), (38, 0, .nop, 0, 0, 0, [(38,[true,true,true])])]
def bX3_keepYears_38 : List AOp := [(38, 1, .iload_n 2, 0, 2, 0, []), (39, 2, .bipush 12, 12, 0, 0, []), (41, 3, .if_icmp .gt 20, 0, 0, 0, [(61,[false,false,false]), (44,[true,true,true])])]
def bX3_keepYears_44 : List AOp := [(44, 1, .aload_n 0, 0, 0, 0, []), (45, 1, .iload_n 1, 0, 1, 0, []), (46, 3, .invokevirtual 67, 0, 18, 2, [(3,[])]), (49, 3, .ifCond .ne 6, 0, 0, 0, [(55,[true,true,true]), (52,[false,false,false])])]
def bX3_keepYears_52 : List AOp := [(52, 3, .goto 9, 0, 0, 0, [(61,[false,false,false])])]
def bX3_keepYears_55 : List AOp := [(55, 3, .iinc 2 1, 1, 2, 0, []), (58, 3, .goto (-20), 0, 0, 0, [(38,[true,true,true])])]
def bX3_keepYears_61 : List AOp := [(61, 1, .return_, 0, 0, 0, [])]
def blX3_keepYears : List (Nat × List AOp) := [(0, bX3_keepYears_0), (38, bX3_keepYears_38), (44, bX3_keepYears_44), (52, bX3_keepYears_52), (55, bX3_keepYears_55), (61, bX3_keepYears_61)]
def bX4_putBytes_0 : List AOp := [(0, 2, .bipush 24, 24, 0, 0, []), (2, 1, .istore_n 2, 0, 2, 0, []), (3, 0, .nop, 0, 0, 0, [(3,[true,true,true])])]
def bX4_putBytes_3 : List AOp := [(3, 1, .iload_n 2, 0, 2, 0, []), (4, 3, .ifCond .lt 51, 0, 0, 0, [(55,[false,false,false]), (7,[true,true,true])])]
def bX4_putBytes_7 : List AOp := [(7, 1, .aload_n 0, 0, 0, 0, []), (8, 3, .getfield 21, 0, 4, 3, []), (11, 3, .ifCond .lt 38, 0, 0, 0, [(49,[true,true,true]), (14,[true,true,true])])]
def bX4_putBytes_14 : List AOp := [(14, 1, .aload_n 0, 0, 0, 0, []), (15, 3, .getfield 21, 0, 4, 3, []), (18, 2, .bipush 40, 40, 0, 0, []), (20, 3, .if_icmp .ge 29, 0, 0, 0, [(49,[true,true,true]), (23,[true,true,true])])]
def bX4_putBytes_23 : List AOp := [(23, 1, .aload_n 0, 0, 0, 0, []), (24, 3, .getfield 9, 0, 4, 0, []), (27, 1, .aload_n 0, 0, 0, 0, []), (28, 3, .getfield 21, 0, 4, 3, []), (31, 1, .iload_n 1, 0, 1, 0, []), (32, 1, .iload_n 2, 0, 2, 0, []), (33, 1, .iushr, 0, 0, 0, []), (34, 3, .sipush 255, 255, 0, 0, []), (37, 1, .iand, 0, 0, 0, []), (38, 1, .iastore, 0, 0, 0, []), (39, 1, .aload_n 0, 0, 0, 0, []), (40, 1, .dup, 0, 0, 0, []), (41, 3, .getfield 21, 0, 4, 3, []), (44, 1, .iconst 1, 1, 0, 0, []), (45, 1, .iadd, 0, 0, 0, []), (46, 3, .putfield 21, 0, 4, 3, []), (49, 0, .nop, 0, 0, 0, [(49,[true,true,true])])]
def bX4_putBytes_49 : List AOp := [(49, 3, .iinc 2 (-8), (-8), 2, 0, []), (52, 3, .goto (-49), 0, 0, 0, [(3,[true,true,true])])]
def bX4_putBytes_55 : List AOp := [(55, 1, .return_, 0, 0, 0, [])]
def blX4_putBytes : List (Nat × List AOp) := [(0, bX4_putBytes_0), (3, bX4_putBytes_3), (7, bX4_putBytes_7), (14, bX4_putBytes_14), (23, bX4_putBytes_23), (49, bX4_putBytes_49), (55, bX4_putBytes_55)]
def bX4_take_0 : List AOp := [(0, 1, .iload_n 1, 0, 1, 0, []), (1, 3, .ifCond .lt 27, 0, 0, 0, [(28,[false,false,false,false]), (4,[true,true,true,false])])]
def bX4_take_4 : List AOp := [(4, 1, .iload_n 1, 0, 1, 0, []), (5, 2, .bipush 12, 12, 0, 0, []), (7, 3, .if_icmp .ge 21, 0, 0, 0, [(28,[false,false,false,false]), (10,[true,true,true,false])])]
def bX4_take_10 : List AOp := [(10, 1, .iload_n 2, 0, 2, 0, []), (11, 3, .ifCond .lt 17, 0, 0, 0, [(28,[false,false,false,false]), (14,[true,true,true,false])])]
def bX4_take_14 : List AOp := [(14, 1, .iload_n 2, 0, 2, 0, []), (15, 2, .bipush 20, 20, 0, 0, []), (17, 3, .if_icmp .gt 11, 0, 0, 0, [(28,[false,false,false,false]), (20,[true,true,true,false])])]
def bX4_take_20 : List AOp := [(20, 1, .iload_n 2, 0, 2, 0, []), (21, 1, .aload_n 0, 0, 0, 0, []), (22, 3, .getfield 21, 0, 4, 3, []), (25, 3, .if_icmp .le 5, 0, 0, 0, [(30,[true,true,true,false]), (28,[false,false,false,false])])]
def bX4_take_28 : List AOp := [(28, 1, .iconst 0, 0, 0, 0, []), (29, 1, .ireturn, 0, 0, 0, [])]
def bX4_take_30 : List AOp := [(30, 1, .aload_n 0, 0, 0, 0, []), (31, 1, .iconst 0, 0, 0, 0, []), (32, 3, .putfield 21, 0, 4, 3, []), (35, 1, .iconst 0, 0, 0, 0, []), (36, 1, .istore_n 3, 0, 3, 0, []), (37, 0, .nop, 0, 0, 0, [(37,[true,true,true,true])])]
def bX4_take_37 : List AOp := [(37, 1, .iload_n 3, 0, 3, 0, []), (38, 1, .iload_n 2, 0, 2, 0, []), (39, 3, .if_icmp .ge 33, 0, 0, 0, [(72,[true,true,true,false]), (42,[true,true,true,true])])]
def bX4_take_42 : List AOp := [(42, 1, .aload_n 0, 0, 0, 0, []), (43, 3, .getfield 9, 0, 4, 0, []), (46, 1, .iload_n 3, 0, 3, 0, []), (47, 1, .iaload, 0, 0, 0, []), (48, 2, .bipush 97, 97, 0, 0, []), (50, 3, .if_icmp .lt 14, 0, 0, 0, [(64,[false,false,false,false]), (53,[true,true,true,true])])]
def bX4_take_53 : List AOp := [(53, 1, .aload_n 0, 0, 0, 0, []), (54, 3, .getfield 9, 0, 4, 0, []), (57, 1, .iload_n 3, 0, 3, 0, []), (58, 1, .iaload, 0, 0, 0, []), (59, 2, .bipush 122, 122, 0, 0, []), (61, 3, .if_icmp .le 5, 0, 0, 0, [(66,[true,true,true,true]), (64,[false,false,false,false])])]
def bX4_take_64 : List AOp := [(64, 1, .iconst 0, 0, 0, 0, []), (65, 1, .ireturn, 0, 0, 0, [])]
def bX4_take_66 : List AOp := [(66, 3, .iinc 3 1, 1, 3, 0, []), (69, 3, .goto (-32), 0, 0, 0, [(37,[true,true,true,true])])]
def bX4_take_72 : List AOp := [(72, 1, .aload_n 0, 0, 0, 0, []), (73, 3, .getfield 9, 0, 4, 0, []), (76, 1, .iconst 0, 0, 0, 0, []), (77, 1, .aload_n 0, 0, 0, 0, []), (78, 3, .getfield 15, 0, 4, 1, []), (81, 1, .iload_n 1, 0, 1, 0, []), (82, 2, .bipush 20, 20, 0, 0, []), (84, 1, .imul, 0, 0, 0, []), (85, 1, .iload_n 2, 0, 2, 0, []), (86, 3, .invokestatic 37, 0, 0, 0, [(0,[])]), (89, 1, .aload_n 0, 0, 0, 0, []), (90, 3, .getfield 18, 0, 4, 2, []), (93, 1, .iload_n 1, 0, 1, 0, []), (94, 1, .iload_n 2, 0, 2, 0, []), (95, 1, .iastore, 0, 0, 0, []), (96, 1, .iconst 1, 1, 0, 0, []), (97, 1, .ireturn, 0, 0, 0, [])]
def blX4_take : List (Nat × List AOp) := [(0, bX4_take_0), (4, bX4_take_4), (10, bX4_take_10), (14, bX4_take_14), (20, bX4_take_20), (28, bX4_take_28), (30, bX4_take_30), (37, bX4_take_37), (42, bX4_take_42), (53, bX4_take_53), (64, bX4_take_64), (66, bX4_take_66), (72, bX4_take_72)]
def bX4_findModel_0 : List AOp := [(0, 1, .aload_n 0, 0, 0, 0, []), (1, 1, .iconst (-1), (-1), 0, 0, []), (2, 3, .putfield 25, 0, 4, 4, []), (5, 1, .aload_n 0, 0, 0, 0, []), (6, 1, .iconst 3, 3, 0, 0, []), (7, 3, .putfield 28, 0, 4, 5, []), (10, 1, .iconst 0, 0, 0, 0, []), (11, 1, .istore_n 2, 0, 2, 0, []), (12, 0, .nop, 0, 0, 0, [(12,[true,true,true])])]
def bX4_findModel_12 : List AOp := [(12, 1, .iload_n 2, 0, 2, 0, []), (13, 2, .bipush 12, 12, 0, 0, []), (15, 3, .if_icmp .ge 20, 0, 0, 0, [(35,[false,false,false]), (18,[true,true,true])])]
def bX4_findModel_18 : List AOp := [(18, 1, .iload_n 2, 0, 2, 0, []), (19, 1, .iload_n 1, 0, 1, 0, []), (20, 3, .if_icmp .eq 9, 0, 0, 0, [(29,[true,true,true]), (23,[true,true,true])])]
def bX4_findModel_23 : List AOp := [(23, 1, .aload_n 0, 0, 0, 0, []), (24, 1, .iload_n 1, 0, 1, 0, []), (25, 1, .iload_n 2, 0, 2, 0, []), (26, 3, .invokevirtual 43, 0, 25, 3, [(4,[])]), (29, 0, .nop, 0, 0, 0, [(29,[true,true,true])])]
def bX4_findModel_29 : List AOp := [(29, 3, .iinc 2 1, 1, 2, 0, []), (32, 3, .goto (-20), 0, 0, 0, [(12,[true,true,true])])]
def bX4_findModel_35 : List AOp := [(35, 1, .return_, 0, 0, 0, [])]
def blX4_findModel : List (Nat × List AOp) := [(0, bX4_findModel_0), (12, bX4_findModel_12), (18, bX4_findModel_18), (23, bX4_findModel_23), (29, bX4_findModel_29), (35, bX4_findModel_35)]
def bX4_compareWith_0 : List AOp := [(0, 1, .iconst 0, 0, 0, 0, []), (1, 1, .istore_n 3, 0, 3, 0, []), (2, 0, .nop, 0, 0, 0, [(2,[true,true,true,true,false,false])])]
def bX4_compareWith_2 : List AOp := [(2, 1, .iload_n 3, 0, 3, 0, []), (3, 2, .bipush 20, 20, 0, 0, []), (5, 3, .if_icmp .ge 67, 0, 0, 0, [(72,[false,false,false,false,false,false]), (8,[true,true,true,true,false,false])])]
def bX4_compareWith_8 : List AOp := [(8, 1, .iconst 0, 0, 0, 0, []), (9, 2, .istore 4, 0, 4, 0, []), (11, 0, .nop, 0, 0, 0, [(11,[true,true,true,true,true,false])])]
def bX4_compareWith_11 : List AOp := [(11, 2, .iload 4, 0, 4, 0, []), (13, 2, .bipush 20, 20, 0, 0, []), (15, 3, .if_icmp .ge 51, 0, 0, 0, [(66,[true,true,true,true,false,false]), (18,[true,true,true,true,true,false])])]
def bX4_compareWith_18 : List AOp := [(18, 1, .aload_n 0, 0, 0, 0, []), (19, 1, .iload_n 1, 0, 1, 0, []), (20, 1, .iload_n 3, 0, 3, 0, []), (21, 1, .iload_n 2, 0, 2, 0, []), (22, 2, .iload 4, 0, 4, 0, []), (24, 3, .invokevirtual 47, 0, 26, 5, [(4,[])]), (27, 2, .istore 5, 0, 5, 0, []), (29, 2, .iload 5, 0, 5, 0, []), (31, 1, .aload_n 0, 0, 0, 0, []), (32, 3, .getfield 28, 0, 4, 5, []), (35, 3, .if_icmp .le 25, 0, 0, 0, [(60,[true,true,true,true,true,false]), (38,[true,true,true,true,true,true])])]
def bX4_compareWith_38 : List AOp := [(38, 1, .aload_n 0, 0, 0, 0, []), (39, 1, .iload_n 2, 0, 2, 0, []), (40, 3, .putfield 25, 0, 4, 4, []), (43, 1, .aload_n 0, 0, 0, 0, []), (44, 2, .iload 5, 0, 5, 0, []), (46, 3, .putfield 28, 0, 4, 5, []), (49, 1, .aload_n 0, 0, 0, 0, []), (50, 1, .iload_n 3, 0, 3, 0, []), (51, 3, .putfield 31, 0, 4, 6, []), (54, 1, .aload_n 0, 0, 0, 0, []), (55, 2, .iload 4, 0, 4, 0, []), (57, 3, .putfield 34, 0, 4, 7, []), (60, 0, .nop, 0, 0, 0, [(60,[true,true,true,true,true,false])])]
def bX4_compareWith_60 : List AOp := [(60, 3, .iinc 4 1, 1, 4, 0, []), (63, 3, .goto (-52), 0, 0, 0, [(11,[true,true,true,true,true,false])])]
def bX4_compareWith_66 : List AOp := [(66, 3, .iinc 3 1, 1, 3, 0, []), (69, 3, .goto (-67), 0, 0, 0, [(2,[true,true,true,true,false,false])])]
def bX4_compareWith_72 : List AOp := [(72, 1, .return_, 0, 0, 0, [])]
def blX4_compareWith : List (Nat × List AOp) := [(0, bX4_compareWith_0), (2, bX4_compareWith_2), (8, bX4_compareWith_8), (11, bX4_compareWith_11), (18, bX4_compareWith_18), (38, bX4_compareWith_38), (60, bX4_compareWith_60), (66, bX4_compareWith_66), (72, bX4_compareWith_72)]
def bX4_alike_0 : List AOp := [(0, 1, .iload_n 1, 0, 1, 0, []), (1, 3, .ifCond .lt 19, 0, 0, 0, [(20,[false,false,false,false,false,false,false]), (4,[true,true,true,true,true,false,false])])]
def bX4_alike_4 : List AOp := [(4, 1, .iload_n 1, 0, 1, 0, []), (5, 2, .bipush 12, 12, 0, 0, []), (7, 3, .if_icmp .ge 13, 0, 0, 0, [(20,[false,false,false,false,false,false,false]), (10,[true,true,true,true,true,false,false])])]
def bX4_alike_10 : List AOp := [(10, 1, .iload_n 3, 0, 3, 0, []), (11, 3, .ifCond .lt 9, 0, 0, 0, [(20,[false,false,false,false,false,false,false]), (14,[true,true,true,true,true,false,false])])]
def bX4_alike_14 : List AOp := [(14, 1, .iload_n 3, 0, 3, 0, []), (15, 2, .bipush 12, 12, 0, 0, []), (17, 3, .if_icmp .lt 5, 0, 0, 0, [(22,[true,true,true,true,true,false,false]), (20,[false,false,false,false,false,false,false])])]
def bX4_alike_20 : List AOp := [(20, 1, .iconst 0, 0, 0, 0, []), (21, 1, .ireturn, 0, 0, 0, [])]
def bX4_alike_22 : List AOp := [(22, 1, .aload_n 0, 0, 0, 0, []), (23, 3, .getfield 18, 0, 4, 2, []), (26, 1, .iload_n 1, 0, 1, 0, []), (27, 1, .iaload, 0, 0, 0, []), (28, 1, .iload_n 2, 0, 2, 0, []), (29, 1, .isub, 0, 0, 0, []), (30, 1, .aload_n 0, 0, 0, 0, []), (31, 3, .getfield 18, 0, 4, 2, []), (34, 1, .iload_n 3, 0, 3, 0, []), (35, 1, .iaload, 0, 0, 0, []), (36, 2, .iload 4, 0, 4, 0, []), (38, 1, .isub, 0, 0, 0, []), (39, 3, .invokestatic 51, 0, 0, 0, [(2,[])]), (42, 2, .istore 5, 0, 5, 0, []), (44, 2, .iload 5, 0, 5, 0, []), (46, 1, .aload_n 0, 0, 0, 0, []), (47, 3, .getfield 28, 0, 4, 5, []), (50, 3, .if_icmp .gt 5, 0, 0, 0, [(55,[true,true,true,true,true,true,false]), (53,[false,false,false,false,false,false,false])])]
def bX4_alike_53 : List AOp := [(53, 1, .iconst 0, 0, 0, 0, []), (54, 1, .ireturn, 0, 0, 0, [])]
def bX4_alike_55 : List AOp := [(55, 1, .iconst 0, 0, 0, 0, []), (56, 2, .istore 6, 0, 6, 0, []), (58, 0, .nop, 0, 0, 0, [(58,[true,true,true,true,true,true,true])])]
def bX4_alike_58 : List AOp := [(58, 2, .iload 6, 0, 6, 0, []), (60, 2, .iload 5, 0, 5, 0, []), (62, 3, .if_icmp .ge 41, 0, 0, 0, [(103,[false,false,false,false,false,false,true]), (65,[true,true,true,true,true,true,true])])]
def bX4_alike_65 : List AOp := [(65, 1, .aload_n 0, 0, 0, 0, []), (66, 3, .getfield 15, 0, 4, 1, []), (69, 1, .iload_n 1, 0, 1, 0, []), (70, 2, .bipush 20, 20, 0, 0, []), (72, 1, .imul, 0, 0, 0, []), (73, 1, .iload_n 2, 0, 2, 0, []), (74, 1, .iadd, 0, 0, 0, []), (75, 2, .iload 6, 0, 6, 0, []), (77, 1, .iadd, 0, 0, 0, []), (78, 1, .iaload, 0, 0, 0, []), (79, 1, .aload_n 0, 0, 0, 0, []), (80, 3, .getfield 15, 0, 4, 1, []), (83, 1, .iload_n 3, 0, 3, 0, []), (84, 2, .bipush 20, 20, 0, 0, []), (86, 1, .imul, 0, 0, 0, []), (87, 2, .iload 4, 0, 4, 0, []), (89, 1, .iadd, 0, 0, 0, []), (90, 2, .iload 6, 0, 6, 0, []), (92, 1, .iadd, 0, 0, 0, []), (93, 1, .iaload, 0, 0, 0, []), (94, 3, .if_icmp .ne 9, 0, 0, 0, [(103,[false,false,false,false,false,false,true]), (97,[true,true,true,true,true,true,true])])]
def bX4_alike_97 : List AOp := [(97, 3, .iinc 6 1, 1, 6, 0, []), (100, 3, .goto (-42), 0, 0, 0, [(58,[true,true,true,true,true,true,true])])]
def bX4_alike_103 : List AOp := [(103, 2, .iload 6, 0, 6, 0, []), (105, 1, .ireturn, 0, 0, 0, [])]
def blX4_alike : List (Nat × List AOp) := [(0, bX4_alike_0), (4, bX4_alike_4), (10, bX4_alike_10), (14, bX4_alike_14), (20, bX4_alike_20), (22, bX4_alike_22), (53, bX4_alike_53), (55, bX4_alike_55), (58, bX4_alike_58), (65, bX4_alike_65), (97, bX4_alike_97), (103, bX4_alike_103)]
def bX5_person_0 : List AOp := [(0, 1, .aload_n 0, 0, 0, 0, []), (1, 3, .getfield 14, 0, 5, 0, []), (4, 1, .iload_n 1, 0, 1, 0, []), (5, 1, .iload_n 2, 0, 2, 0, []), (6, 3, .invokevirtual 75, 0, 11, 3, [(2,[])]), (9, 1, .ireturn, 0, 0, 0, [])]
def blX5_person : List (Nat × List AOp) := [(0, bX5_person_0)]
def bX5_lived_0 : List AOp := [(0, 1, .aload_n 0, 0, 0, 0, []), (1, 3, .getfield 14, 0, 5, 0, []), (4, 1, .iload_n 1, 0, 1, 0, []), (5, 1, .iload_n 2, 0, 2, 0, []), (6, 1, .iload_n 3, 0, 3, 0, []), (7, 3, .invokevirtual 79, 0, 12, 4, [(2,[])]), (10, 3, .ifCond .ne 5, 0, 0, 0, [(15,[true,false,false,false]), (13,[false,false,false,false])])]
def bX5_lived_13 : List AOp := [(13, 1, .iconst 0, 0, 0, 0, []), (14, 1, .ireturn, 0, 0, 0, [])]
def bX5_lived_15 : List AOp := [(15, 1, .aload_n 0, 0, 0, 0, []), (16, 1, .iconst 0, 0, 0, 0, []), (17, 3, .putfield 71, 1, 5, 12, []), (20, 1, .iconst 1, 1, 0, 0, []), (21, 1, .ireturn, 0, 0, 0, [])]
def blX5_lived : List (Nat × List AOp) := [(0, bX5_lived_0), (13, bX5_lived_13), (15, bX5_lived_15)]
def bX5_formula_0 : List AOp := [(0, 1, .aload_n 0, 0, 0, 0, []), (1, 3, .getfield 18, 0, 5, 1, []), (4, 1, .iload_n 1, 0, 1, 0, []), (5, 1, .iload_n 2, 0, 2, 0, []), (6, 3, .invokevirtual 75, 0, 11, 3, [(2,[])]), (9, 1, .ireturn, 0, 0, 0, [])]
def blX5_formula : List (Nat × List AOp) := [(0, bX5_formula_0)]
def bX5_seal_0 : List AOp := [(0, 1, .aload_n 0, 0, 0, 0, []), (1, 3, .getfield 21, 0, 5, 2, []), (4, 1, .iload_n 1, 0, 1, 0, []), (5, 1, .iload_n 2, 0, 2, 0, []), (6, 3, .invokevirtual 75, 0, 11, 3, [(2,[])]), (9, 1, .ireturn, 0, 0, 0, [])]
def blX5_seal : List (Nat × List AOp) := [(0, bX5_seal_0)]
def bX5_span_0 : List AOp := [(0, 1, .iload_n 1, 0, 1, 0, []), (1, 3, .ifCond .lt 10, 0, 0, 0, [(11,[false,false]), (4,[true,true])])]
def bX5_span_4 : List AOp := [(4, 1, .iload_n 1, 0, 1, 0, []), (5, 3, .sipush 200, 200, 0, 0, []), (8, 3, .if_icmp .le 5, 0, 0, 0, [(13,[true,true]), (11,[false,false])])]
def bX5_span_11 : List AOp := [(11, 1, .iconst 0, 0, 0, 0, []), (12, 1, .ireturn, 0, 0, 0, [])]
def bX5_span_13 : List AOp := [(13, 1, .aload_n 0, 0, 0, 0, []), (14, 3, .getfield 37, 0, 5, 5, []), (17, 1, .iload_n 1, 0, 1, 0, []), (18, 3, .putfield 83, 0, 3, 9, []), (21, 1, .aload_n 0, 0, 0, 0, []), (22, 1, .iconst 0, 0, 0, 0, []), (23, 3, .putfield 71, 1, 5, 12, []), (26, 1, .iconst 1, 1, 0, 0, []), (27, 1, .ireturn, 0, 0, 0, [])]
def blX5_span : List (Nat × List AOp) := [(0, bX5_span_0), (4, bX5_span_4), (11, bX5_span_11), (13, bX5_span_13)]
def bX5_deed_0 : List AOp := [(0, 1, .iload_n 3, 0, 3, 0, []), (1, 1, .iconst 1, 1, 0, 0, []), (2, 3, .if_icmp .lt 9, 0, 0, 0, [(11,[false,false,false,false,false]), (5,[true,true,true,true,false])])]
def bX5_deed_5 : List AOp := [(5, 1, .iload_n 3, 0, 3, 0, []), (6, 2, .bipush 99, 99, 0, 0, []), (8, 3, .if_icmp .le 5, 0, 0, 0, [(13,[true,true,true,true,false]), (11,[false,false,false,false,false])])]
def bX5_deed_11 : List AOp := [(11, 1, .iconst (-1), (-1), 0, 0, []), (12, 1, .ireturn, 0, 0, 0, [])]
def bX5_deed_13 : List AOp := [(13, 1, .aload_n 0, 0, 0, 0, []), (14, 3, .getfield 24, 0, 5, 3, []), (17, 1, .iload_n 1, 0, 1, 0, []), (18, 1, .iload_n 2, 0, 2, 0, []), (19, 3, .invokevirtual 75, 0, 11, 3, [(2,[])]), (22, 2, .istore 4, 0, 4, 0, []), (24, 2, .iload 4, 0, 4, 0, []), (26, 3, .ifCond .lt 10, 0, 0, 0, [(36,[false,false,false,false,false]), (29,[true,false,false,true,true])])]
def bX5_deed_29 : List AOp := [(29, 2, .iload 4, 0, 4, 0, []), (31, 2, .bipush 12, 12, 0, 0, []), (33, 3, .if_icmp .lt 5, 0, 0, 0, [(38,[true,false,false,true,true]), (36,[false,false,false,false,false])])]
def bX5_deed_36 : List AOp := [(36, 1, .iconst (-1), (-1), 0, 0, []), (37, 1, .ireturn, 0, 0, 0, [])]
def bX5_deed_38 : List AOp := [(38, 1, .aload_n 0, 0, 0, 0, []), (39, 3, .getfield 46, 0, 5, 6, []), (42, 3, .getfield 86, 0, 1, 1, []), (45, 2, .iload 4, 0, 4, 0, []), (47, 1, .iload_n 3, 0, 3, 0, []), (48, 1, .iastore, 0, 0, 0, []), (49, 1, .aload_n 0, 0, 0, 0, []), (50, 3, .getfield 57, 0, 5, 8, []), (53, 2, .iload 4, 0, 4, 0, []), (55, 1, .iconst (-1), (-1), 0, 0, []), (56, 1, .iastore, 0, 0, 0, []), (57, 1, .aload_n 0, 0, 0, 0, []), (58, 1, .iconst 0, 0, 0, 0, []), (59, 3, .putfield 71, 1, 5, 12, []), (62, 2, .iload 4, 0, 4, 0, []), (64, 1, .ireturn, 0, 0, 0, [])]
def blX5_deed : List (Nat × List AOp) := [(0, bX5_deed_0), (5, bX5_deed_5), (11, bX5_deed_11), (13, bX5_deed_13), (29, bX5_deed_29), (36, bX5_deed_36), (38, bX5_deed_38)]
def bX5_mark_0 : List AOp := [(0, 1, .aload_n 0, 0, 0, 0, []), (1, 3, .getfield 24, 0, 5, 3, []), (4, 1, .iload_n 1, 0, 1, 0, []), (5, 3, .invokevirtual 89, 0, 10, 2, [(2,[])]), (8, 3, .ifCond .eq 22, 0, 0, 0, [(30,[false,false,false,false]), (11,[true,true,true,true])])]
def bX5_mark_11 : List AOp := [(11, 1, .aload_n 0, 0, 0, 0, []), (12, 1, .iload_n 2, 0, 2, 0, []), (13, 1, .iload_n 3, 0, 3, 0, []), (14, 3, .invokevirtual 93, 0, 54, 3, [(5,[])]), (17, 3, .ifCond .eq 13, 0, 0, 0, [(30,[false,false,false,false]), (20,[true,true,true,true])])]
def bX5_mark_20 : List AOp := [(20, 1, .iload_n 2, 0, 2, 0, []), (21, 1, .iconst 4, 4, 0, 0, []), (22, 3, .if_icmp .ne 10, 0, 0, 0, [(32,[true,true,true,true]), (25,[true,true,true,true])])]
def bX5_mark_25 : List AOp := [(25, 1, .iload_n 3, 0, 3, 0, []), (26, 1, .iload_n 1, 0, 1, 0, []), (27, 3, .if_icmp .ne 5, 0, 0, 0, [(32,[true,true,true,true]), (30,[false,false,false,false])])]
def bX5_mark_30 : List AOp := [(30, 1, .iconst 0, 0, 0, 0, []), (31, 1, .ireturn, 0, 0, 0, [])]
def bX5_mark_32 : List AOp := [(32, 1, .aload_n 0, 0, 0, 0, []), (33, 3, .getfield 30, 0, 5, 4, []), (36, 1, .iload_n 1, 0, 1, 0, []), (37, 1, .iload_n 2, 0, 2, 0, []), (38, 1, .iload_n 3, 0, 3, 0, []), (39, 3, .invokevirtual 97, 0, 3, 4, [(0,[])]), (42, 3, .ifCond .ne 5, 0, 0, 0, [(47,[true,false,false,false]), (45,[false,false,false,false])])]
def bX5_mark_45 : List AOp := [(45, 1, .iconst 0, 0, 0, 0, []), (46, 1, .ireturn, 0, 0, 0, [])]
def bX5_mark_47 : List AOp := [(47, 1, .aload_n 0, 0, 0, 0, []), (48, 1, .iconst 0, 0, 0, 0, []), (49, 3, .putfield 71, 1, 5, 12, []), (52, 1, .iconst 1, 1, 0, 0, []), (53, 1, .ireturn, 0, 0, 0, [])]
def blX5_mark : List (Nat × List AOp) := [(0, bX5_mark_0), (11, bX5_mark_11), (20, bX5_mark_20), (25, bX5_mark_25), (30, bX5_mark_30), (32, bX5_mark_32), (45, bX5_mark_45), (47, bX5_mark_47)]
def bX5_agree_0 : List AOp := [(0, 1, .aload_n 0, 0, 0, 0, []), (1, 1, .iload_n 1, 0, 1, 0, []), (2, 3, .invokevirtual 100, 0, 51, 2, [(5,[])]), (5, 3, .ifCond .ne 5, 0, 0, 0, [(10,[true,true]), (8,[false,false])])]
def bX5_agree_8 : List AOp := [(8, 1, .iconst (-1), (-1), 0, 0, []), (9, 1, .ireturn, 0, 0, 0, [])]
def bX5_agree_10 : List AOp := [(10, 1, .aload_n 0, 0, 0, 0, []), (11, 3, .invokevirtual 103, 0, 58, 1, [(5,[])]), (14, 1, .aload_n 0, 0, 0, 0, []), (15, 3, .getfield 37, 0, 5, 5, []), (18, 1, .iload_n 1, 0, 1, 0, []), (19, 3, .invokevirtual 106, 0, 15, 2, [(3,[])]), (22, 1, .iconst (-1), (-1), 0, 0, []), (23, 3, .if_icmp .ne 7, 0, 0, 0, [(30,[false,false]), (26,[false,false])])]
def bX5_agree_26 : List AOp := [(26, 1, .iconst 1, 1, 0, 0, []), (27, 3, .goto 4, 0, 0, 0, [(31,[false,false])])]
def bX5_agree_30 : List AOp := [(30, 1, .iconst 0, 0, 0, 0, []), (31, 0, .nop, 0, 0, 0, [(31,[false,false])])]
def bX5_agree_31 : List AOp := [(31, 1, .ireturn, 0, 0, 0, [])]
def blX5_agree : List (Nat × List AOp) := [(0, bX5_agree_0), (8, bX5_agree_8), (10, bX5_agree_10), (26, bX5_agree_26), (30, bX5_agree_30), (31, bX5_agree_31)]
def bX5_forged_0 : List AOp := [(0, 1, .aload_n 0, 0, 0, 0, []), (1, 3, .invokevirtual 103, 0, 58, 1, [(5,[])]), (4, 1, .aload_n 0, 0, 0, 0, []), (5, 3, .invokevirtual 110, 0, 53, 1, [(5,[])]), (8, 1, .ireturn, 0, 0, 0, [])]
def blX5_forged : List (Nat × List AOp) := [(0, bX5_forged_0)]
def bX5_weight_0 : List AOp := [(0, 1, .aload_n 0, 0, 0, 0, []), (1, 1, .iload_n 1, 0, 1, 0, []), (2, 3, .invokevirtual 100, 0, 51, 2, [(5,[])]), (5, 3, .ifCond .eq 14, 0, 0, 0, [(19,[false,false]), (8,[true,true])])]
def bX5_weight_8 : List AOp := [(8, 1, .aload_n 0, 0, 0, 0, []), (9, 3, .getfield 46, 0, 5, 6, []), (12, 1, .iload_n 1, 0, 1, 0, []), (13, 3, .invokevirtual 114, 0, 6, 2, [(1,[])]), (16, 3, .goto 4, 0, 0, 0, [(20,[false,false])])]
def bX5_weight_19 : List AOp := [(19, 1, .iconst (-1), (-1), 0, 0, []), (20, 0, .nop, 0, 0, 0, [(20,[false,false])])]
def bX5_weight_20 : List AOp := [(20, 1, .ireturn, 0, 0, 0, [])]
def blX5_weight : List (Nat × List AOp) := [(0, bX5_weight_0), (8, bX5_weight_8), (19, bX5_weight_19), (20, bX5_weight_20)]
def bX5_year_0 : List AOp := [(0, 1, .aload_n 0, 0, 0, 0, []), (1, 3, .getfield 24, 0, 5, 3, []), (4, 1, .iload_n 1, 0, 1, 0, []), (5, 3, .invokevirtual 89, 0, 10, 2, [(2,[])]), (8, 3, .ifCond .eq 12, 0, 0, 0, [(20,[false,false,false]), (11,[true,true,true])])]
def bX5_year_11 : List AOp := [(11, 1, .iload_n 2, 0, 2, 0, []), (12, 3, .ifCond .lt 8, 0, 0, 0, [(20,[false,false,false]), (15,[true,true,true])])]
def bX5_year_15 : List AOp := [(15, 1, .iload_n 2, 0, 2, 0, []), (16, 1, .iconst 1, 1, 0, 0, []), (17, 3, .if_icmp .le 5, 0, 0, 0, [(22,[true,true,true]), (20,[false,false,false])])]
def bX5_year_20 : List AOp := [(20, 1, .iconst (-1), (-1), 0, 0, []), (21, 1, .ireturn, 0, 0, 0, [])]
def bX5_year_22 : List AOp := [(22, 1, .aload_n 0, 0, 0, 0, []), (23, 3, .invokevirtual 103, 0, 58, 1, [(5,[])]), (26, 1, .aload_n 0, 0, 0, 0, []), (27, 1, .iload_n 1, 0, 1, 0, []), (28, 3, .invokevirtual 117, 0, 52, 2, [(5,[])]), (31, 3, .ifCond .ne 5, 0, 0, 0, [(36,[true,true,true]), (34,[false,false,false])])]
def bX5_year_34 : List AOp := [(34, 1, .iconst (-1), (-1), 0, 0, []), (35, 1, .ireturn, 0, 0, 0, [])]
def bX5_year_36 : List AOp := [(36, 1, .iload_n 2, 0, 2, 0, []), (37, 3, .ifCond .ne 15, 0, 0, 0, [(52,[true,true,false]), (40,[true,true,false])])]
def bX5_year_40 : List AOp := [(40, 1, .aload_n 0, 0, 0, 0, []), (41, 3, .getfield 37, 0, 5, 5, []), (44, 3, .getfield 120, 0, 3, 4, []), (47, 1, .iload_n 1, 0, 1, 0, []), (48, 1, .iaload, 0, 0, 0, []), (49, 3, .goto 12, 0, 0, 0, [(61,[false,false,false])])]
def bX5_year_52 : List AOp := [(52, 1, .aload_n 0, 0, 0, 0, []), (53, 3, .getfield 37, 0, 5, 5, []), (56, 3, .getfield 123, 0, 3, 5, []), (59, 1, .iload_n 1, 0, 1, 0, []), (60, 1, .iaload, 0, 0, 0, []), (61, 0, .nop, 0, 0, 0, [(61,[false,false,false])])]
def bX5_year_61 : List AOp := [(61, 1, .ireturn, 0, 0, 0, [])]
def blX5_year : List (Nat × List AOp) := [(0, bX5_year_0), (11, bX5_year_11), (15, bX5_year_15), (20, bX5_year_20), (22, bX5_year_22), (34, bX5_year_34), (36, bX5_year_36), (40, bX5_year_40), (52, bX5_year_52), (61, bX5_year_61)]
def bX5_quarrel_0 : List AOp := [(0, 1, .aload_n 0, 0, 0, 0, []), (1, 3, .invokevirtual 103, 0, 58, 1, [(5,[])]), (4, 1, .aload_n 0, 0, 0, 0, []), (5, 3, .getfield 37, 0, 5, 5, []), (8, 1, .aload_n 0, 0, 0, 0, []), (9, 3, .invokevirtual 126, 0, 50, 1, [(5,[])]), (12, 3, .invokevirtual 129, 0, 20, 2, [(3,[])]), (15, 1, .ireturn, 0, 0, 0, [])]
def blX5_quarrel : List (Nat × List AOp) := [(0, bX5_quarrel_0)]
def bX5_sure_0 : List AOp := [(0, 1, .aload_n 0, 0, 0, 0, []), (1, 3, .getfield 14, 0, 5, 0, []), (4, 1, .iload_n 1, 0, 1, 0, []), (5, 3, .invokevirtual 89, 0, 10, 2, [(2,[])]), (8, 3, .ifCond .eq 12, 0, 0, 0, [(20,[false,false,false,false,false,false]), (11,[true,true,true,false,false,false])])]
def bX5_sure_11 : List AOp := [(11, 1, .iload_n 2, 0, 2, 0, []), (12, 3, .ifCond .lt 8, 0, 0, 0, [(20,[false,false,false,false,false,false]), (15,[true,true,true,false,false,false])])]
def bX5_sure_15 : List AOp := [(15, 1, .iload_n 2, 0, 2, 0, []), (16, 1, .iconst 1, 1, 0, 0, []), (17, 3, .if_icmp .le 5, 0, 0, 0, [(22,[true,true,true,false,false,false]), (20,[false,false,false,false,false,false])])]
def bX5_sure_20 : List AOp := [(20, 1, .iconst (-1), (-1), 0, 0, []), (21, 1, .ireturn, 0, 0, 0, [])]
def bX5_sure_22 : List AOp := [(22, 1, .aload_n 0, 0, 0, 0, []), (23, 3, .invokevirtual 103, 0, 58, 1, [(5,[])]), (26, 3, .sipush 3000, 3000, 0, 0, []), (29, 1, .istore_n 3, 0, 3, 0, []), (30, 1, .iconst (-1), (-1), 0, 0, []), (31, 2, .istore 4, 0, 4, 0, []), (33, 1, .iconst 0, 0, 0, 0, []), (34, 2, .istore 5, 0, 5, 0, []), (36, 0, .nop, 0, 0, 0, [(36,[true,true,true,true,true,true])])]
def bX5_sure_36 : List AOp := [(36, 2, .iload 5, 0, 5, 0, []), (38, 2, .bipush 12, 12, 0, 0, []), (40, 3, .if_icmp .ge 67, 0, 0, 0, [(107,[false,false,true,true,true,false]), (43,[true,true,true,true,true,true])])]
def bX5_sure_43 : List AOp := [(43, 1, .aload_n 0, 0, 0, 0, []), (44, 2, .iload 5, 0, 5, 0, []), (46, 3, .invokevirtual 117, 0, 52, 2, [(5,[])]), (49, 3, .ifCond .eq 52, 0, 0, 0, [(101,[true,true,true,true,true,true]), (52,[true,true,true,true,true,true])])]
def bX5_sure_52 : List AOp := [(52, 1, .aload_n 0, 0, 0, 0, []), (53, 3, .getfield 30, 0, 5, 4, []), (56, 2, .iload 5, 0, 5, 0, []), (58, 1, .iconst 0, 0, 0, 0, []), (59, 3, .invokevirtual 132, 0, 1, 3, [(0,[])]), (62, 1, .iload_n 1, 0, 1, 0, []), (63, 3, .invokestatic 135, 0, 49, 2, []), (66, 3, .ifCond .eq 35, 0, 0, 0, [(101,[true,true,true,true,true,true]), (69,[true,true,true,true,true,true])])]
def bX5_sure_69 : List AOp := [(69, 1, .iload_n 3, 0, 3, 0, []), (70, 1, .aload_n 0, 0, 0, 0, []), (71, 3, .getfield 37, 0, 5, 5, []), (74, 3, .getfield 123, 0, 3, 5, []), (77, 2, .iload 5, 0, 5, 0, []), (79, 1, .iaload, 0, 0, 0, []), (80, 3, .invokestatic 138, 0, 0, 0, [(2,[])]), (83, 1, .istore_n 3, 0, 3, 0, []), (84, 2, .iload 4, 0, 4, 0, []), (86, 1, .aload_n 0, 0, 0, 0, []), (87, 3, .getfield 37, 0, 5, 5, []), (90, 3, .getfield 120, 0, 3, 4, []), (93, 2, .iload 5, 0, 5, 0, []), (95, 1, .iaload, 0, 0, 0, []), (96, 3, .invokestatic 143, 0, 0, 0, [(1,[])]), (99, 2, .istore 4, 0, 4, 0, []), (101, 0, .nop, 0, 0, 0, [(101,[true,true,true,true,true,true])])]
def bX5_sure_101 : List AOp := [(101, 3, .iinc 5 1, 1, 5, 0, []), (104, 3, .goto (-68), 0, 0, 0, [(36,[true,true,true,true,true,true])])]
def bX5_sure_107 : List AOp := [(107, 2, .iload 4, 0, 4, 0, []), (109, 1, .iload_n 3, 0, 3, 0, []), (110, 3, .if_icmp .ge 5, 0, 0, 0, [(115,[false,false,true,true,true,false]), (113,[false,false,false,false,false,false])])]
def bX5_sure_113 : List AOp := [(113, 1, .iconst (-1), (-1), 0, 0, []), (114, 1, .ireturn, 0, 0, 0, [])]
def bX5_sure_115 : List AOp := [(115, 1, .iload_n 2, 0, 2, 0, []), (116, 3, .ifCond .ne 7, 0, 0, 0, [(123,[false,false,false,false,true,false]), (119,[false,false,false,true,false,false])])]
def bX5_sure_119 : List AOp := [(119, 1, .iload_n 3, 0, 3, 0, []), (120, 3, .goto 5, 0, 0, 0, [(125,[false,false,false,false,false,false])])]
def bX5_sure_123 : List AOp := [(123, 2, .iload 4, 0, 4, 0, []), (125, 0, .nop, 0, 0, 0, [(125,[false,false,false,false,false,false])])]
def bX5_sure_125 : List AOp := [(125, 1, .ireturn, 0, 0, 0, [])]
def blX5_sure : List (Nat × List AOp) := [(0, bX5_sure_0), (11, bX5_sure_11), (15, bX5_sure_15), (20, bX5_sure_20), (22, bX5_sure_22), (36, bX5_sure_36), (43, bX5_sure_43), (52, bX5_sure_52), (69, bX5_sure_69), (101, bX5_sure_101), (107, bX5_sure_107), (113, bX5_sure_113), (115, bX5_sure_115), (119, bX5_sure_119), (123, bX5_sure_123), (125, bX5_sure_125)]
def bX5_feed_0 : List AOp := [(0, 1, .aload_n 0, 0, 0, 0, []), (1, 3, .getfield 53, 0, 5, 7, []), (4, 3, .getfield 146, 0, 4, 3, []), (7, 2, .bipush 20, 20, 0, 0, []), (9, 1, .iadd, 0, 0, 0, []), (10, 2, .bipush 40, 40, 0, 0, []), (12, 3, .if_icmp .le 5, 0, 0, 0, [(17,[true,true,true,true,true,true]), (15,[false,false,false,false,false,false])])]
def bX5_feed_15 : List AOp := [(15, 1, .iconst (-1), (-1), 0, 0, []), (16, 1, .ireturn, 0, 0, 0, [])]
def bX5_feed_17 : List AOp := [(17, 1, .aload_n 0, 0, 0, 0, []), (18, 3, .getfield 53, 0, 5, 7, []), (21, 1, .iload_n 1, 0, 1, 0, []), (22, 3, .invokevirtual 149, 0, 22, 2, [(4,[])]), (25, 1, .aload_n 0, 0, 0, 0, []), (26, 3, .getfield 53, 0, 5, 7, []), (29, 1, .iload_n 2, 0, 2, 0, []), (30, 3, .invokevirtual 149, 0, 22, 2, [(4,[])]), (33, 1, .aload_n 0, 0, 0, 0, []), (34, 3, .getfield 53, 0, 5, 7, []), (37, 1, .iload_n 3, 0, 3, 0, []), (38, 3, .invokevirtual 149, 0, 22, 2, [(4,[])]), (41, 1, .aload_n 0, 0, 0, 0, []), (42, 3, .getfield 53, 0, 5, 7, []), (45, 2, .iload 4, 0, 4, 0, []), (47, 3, .invokevirtual 149, 0, 22, 2, [(4,[])]), (50, 1, .aload_n 0, 0, 0, 0, []), (51, 3, .getfield 53, 0, 5, 7, []), (54, 2, .iload 5, 0, 5, 0, []), (56, 3, .invokevirtual 149, 0, 22, 2, [(4,[])]), (59, 1, .aload_n 0, 0, 0, 0, []), (60, 3, .getfield 53, 0, 5, 7, []), (63, 3, .getfield 146, 0, 4, 3, []), (66, 1, .ireturn, 0, 0, 0, [])]
def blX5_feed : List (Nat × List AOp) := [(0, bX5_feed_0), (15, bX5_feed_15), (17, bX5_feed_17)]
def bX5_words_0 : List AOp := [(0, 1, .aload_n 0, 0, 0, 0, []), (1, 3, .getfield 24, 0, 5, 3, []), (4, 1, .iload_n 1, 0, 1, 0, []), (5, 3, .invokevirtual 89, 0, 10, 2, [(2,[])]), (8, 3, .ifCond .eq 19, 0, 0, 0, [(27,[false,false,false]), (11,[true,true,true])])]
def bX5_words_11 : List AOp := [(11, 1, .aload_n 0, 0, 0, 0, []), (12, 3, .getfield 53, 0, 5, 7, []), (15, 1, .iload_n 1, 0, 1, 0, []), (16, 1, .iload_n 2, 0, 2, 0, []), (17, 3, .invokevirtual 152, 0, 23, 3, [(4,[])]), (20, 3, .ifCond .eq 7, 0, 0, 0, [(27,[false,false,false]), (23,[false,false,false])])]
def bX5_words_23 : List AOp := [(23, 1, .iconst 1, 1, 0, 0, []), (24, 3, .goto 4, 0, 0, 0, [(28,[false,false,false])])]
def bX5_words_27 : List AOp := [(27, 1, .iconst 0, 0, 0, 0, []), (28, 0, .nop, 0, 0, 0, [(28,[false,false,false])])]
def bX5_words_28 : List AOp := [(28, 1, .ireturn, 0, 0, 0, [])]
def blX5_words : List (Nat × List AOp) := [(0, bX5_words_0), (11, bX5_words_11), (23, bX5_words_23), (27, bX5_words_27), (28, bX5_words_28)]
def bX5_model_0 : List AOp := [(0, 1, .aload_n 0, 0, 0, 0, []), (1, 3, .getfield 24, 0, 5, 3, []), (4, 1, .iload_n 1, 0, 1, 0, []), (5, 3, .invokevirtual 89, 0, 10, 2, [(2,[])]), (8, 3, .ifCond .eq 12, 0, 0, 0, [(20,[false,false,false]), (11,[true,true,true])])]
def bX5_model_11 : List AOp := [(11, 1, .iload_n 2, 0, 2, 0, []), (12, 3, .ifCond .lt 8, 0, 0, 0, [(20,[false,false,false]), (15,[true,true,true])])]
def bX5_model_15 : List AOp := [(15, 1, .iload_n 2, 0, 2, 0, []), (16, 1, .iconst 3, 3, 0, 0, []), (17, 3, .if_icmp .le 5, 0, 0, 0, [(22,[true,true,true]), (20,[false,false,false])])]
def bX5_model_20 : List AOp := [(20, 1, .iconst (-1), (-1), 0, 0, []), (21, 1, .ireturn, 0, 0, 0, [])]
def bX5_model_22 : List AOp := [(22, 1, .aload_n 0, 0, 0, 0, []), (23, 3, .getfield 53, 0, 5, 7, []), (26, 1, .iload_n 1, 0, 1, 0, []), (27, 3, .invokevirtual 155, 0, 24, 2, [(4,[])]), (30, 1, .aload_n 0, 0, 0, 0, []), (31, 3, .getfield 53, 0, 5, 7, []), (34, 3, .getfield 158, 0, 4, 4, []), (37, 1, .iconst (-1), (-1), 0, 0, []), (38, 3, .if_icmp .ne 5, 0, 0, 0, [(43,[true,false,true]), (41,[false,false,false])])]
def bX5_model_41 : List AOp := [(41, 1, .iconst (-1), (-1), 0, 0, []), (42, 1, .ireturn, 0, 0, 0, [])]
def bX5_model_43 : List AOp := [(43, 1, .iload_n 2, 0, 2, 0, []), (44, 28, .tableswitch 52 0 2 #[28, 36, 44], 0, 0, 0, [(72,[true,false,false]), (80,[true,false,false]), (88,[true,false,false]), (96,[true,false,false])])]
def bX5_model_72 : List AOp := [(72, 1, .aload_n 0, 0, 0, 0, []), (73, 3, .getfield 53, 0, 5, 7, []), (76, 3, .getfield 158, 0, 4, 4, []), (79, 1, .ireturn, 0, 0, 0, [])]
def bX5_model_80 : List AOp := [(80, 1, .aload_n 0, 0, 0, 0, []), (81, 3, .getfield 53, 0, 5, 7, []), (84, 3, .getfield 161, 0, 4, 5, []), (87, 1, .ireturn, 0, 0, 0, [])]
def bX5_model_88 : List AOp := [(88, 1, .aload_n 0, 0, 0, 0, []), (89, 3, .getfield 53, 0, 5, 7, []), (92, 3, .getfield 164, 0, 4, 6, []), (95, 1, .ireturn, 0, 0, 0, [])]
def bX5_model_96 : List AOp := [(96, 1, .aload_n 0, 0, 0, 0, []), (97, 3, .getfield 53, 0, 5, 7, []), (100, 3, .getfield 167, 0, 4, 7, []), (103, 1, .ireturn, 0, 0, 0, [])]
def blX5_model : List (Nat × List AOp) := [(0, bX5_model_0), (11, bX5_model_11), (15, bX5_model_15), (20, bX5_model_20), (22, bX5_model_22), (41, bX5_model_41), (43, bX5_model_43), (72, bX5_model_72), (80, bX5_model_80), (88, bX5_model_88), (96, bX5_model_96)]
def bX5_claim_0 : List AOp := [(0, 1, .aload_n 0, 0, 0, 0, []), (1, 3, .getfield 24, 0, 5, 3, []), (4, 1, .iload_n 1, 0, 1, 0, []), (5, 3, .invokevirtual 89, 0, 10, 2, [(2,[])]), (8, 3, .ifCond .eq 23, 0, 0, 0, [(31,[false,false,false,false]), (11,[true,true,true,true])])]
def bX5_claim_11 : List AOp := [(11, 1, .iload_n 2, 0, 2, 0, []), (12, 3, .ifCond .lt 19, 0, 0, 0, [(31,[false,false,false,false]), (15,[true,true,true,true])])]
def bX5_claim_15 : List AOp := [(15, 1, .iload_n 2, 0, 2, 0, []), (16, 1, .iconst 4, 4, 0, 0, []), (17, 3, .if_icmp .ge 14, 0, 0, 0, [(31,[false,false,false,false]), (20,[true,true,true,true])])]
def bX5_claim_20 : List AOp := [(20, 1, .iload_n 3, 0, 3, 0, []), (21, 3, .ifCond .lt 10, 0, 0, 0, [(31,[false,false,false,false]), (24,[true,true,true,true])])]
def bX5_claim_24 : List AOp := [(24, 1, .iload_n 3, 0, 3, 0, []), (25, 3, .sipush 1023, 1023, 0, 0, []), (28, 3, .if_icmp .le 5, 0, 0, 0, [(33,[true,true,true,true]), (31,[false,false,false,false])])]
def bX5_claim_31 : List AOp := [(31, 1, .iconst 0, 0, 0, 0, []), (32, 1, .ireturn, 0, 0, 0, [])]
def bX5_claim_33 : List AOp := [(33, 1, .aload_n 0, 0, 0, 0, []), (34, 3, .getfield 57, 0, 5, 8, []), (37, 1, .iload_n 1, 0, 1, 0, []), (38, 1, .iload_n 2, 0, 2, 0, []), (39, 1, .iastore, 0, 0, 0, []), (40, 1, .aload_n 0, 0, 0, 0, []), (41, 3, .getfield 61, 0, 5, 9, []), (44, 1, .iload_n 1, 0, 1, 0, []), (45, 1, .iload_n 3, 0, 3, 0, []), (46, 1, .iastore, 0, 0, 0, []), (47, 1, .iconst 1, 1, 0, 0, []), (48, 1, .ireturn, 0, 0, 0, [])]
def blX5_claim : List (Nat × List AOp) := [(0, bX5_claim_0), (11, bX5_claim_11), (15, bX5_claim_15), (20, bX5_claim_20), (24, bX5_claim_24), (31, bX5_claim_31), (33, bX5_claim_33)]
def bX5_clash_0 : List AOp := [(0, 1, .iload_n 1, 0, 1, 0, []), (1, 3, .ifCond .lt 12, 0, 0, 0, [(13,[false,false,false,false,false,false,false]), (4,[true,true,true,false,false,false,false])])]
def bX5_clash_4 : List AOp := [(4, 1, .iload_n 2, 0, 2, 0, []), (5, 3, .ifCond .lt 8, 0, 0, 0, [(13,[false,false,false,false,false,false,false]), (8,[true,true,true,false,false,false,false])])]
def bX5_clash_8 : List AOp := [(8, 1, .iload_n 2, 0, 2, 0, []), (9, 1, .iconst 2, 2, 0, 0, []), (10, 3, .if_icmp .le 5, 0, 0, 0, [(15,[true,true,true,false,false,false,false]), (13,[false,false,false,false,false,false,false])])]
def bX5_clash_13 : List AOp := [(13, 1, .iconst (-1), (-1), 0, 0, []), (14, 1, .ireturn, 0, 0, 0, [])]
def bX5_clash_15 : List AOp := [(15, 1, .aload_n 0, 0, 0, 0, []), (16, 3, .invokevirtual 103, 0, 58, 1, [(5,[])]), (19, 1, .iload_n 1, 0, 1, 0, []), (20, 1, .istore_n 3, 0, 3, 0, []), (21, 1, .iconst 0, 0, 0, 0, []), (22, 2, .istore 4, 0, 4, 0, []), (24, 0, .nop, 0, 0, 0, [(24,[true,false,true,true,true,false,false])])]
def bX5_clash_24 : List AOp := [(24, 2, .iload 4, 0, 4, 0, []), (26, 2, .bipush 12, 12, 0, 0, []), (28, 3, .if_icmp .ge 77, 0, 0, 0, [(105,[false,false,false,false,false,false,false]), (31,[true,false,true,true,true,false,false])])]
def bX5_clash_31 : List AOp := [(31, 2, .iload 4, 0, 4, 0, []), (33, 1, .iconst 1, 1, 0, 0, []), (34, 1, .iadd, 0, 0, 0, []), (35, 2, .istore 5, 0, 5, 0, []), (37, 0, .nop, 0, 0, 0, [(37,[true,false,true,true,true,true,false])])]
def bX5_clash_37 : List AOp := [(37, 2, .iload 5, 0, 5, 0, []), (39, 2, .bipush 12, 12, 0, 0, []), (41, 3, .if_icmp .ge 58, 0, 0, 0, [(99,[true,false,true,true,true,false,false]), (44,[true,false,true,true,true,true,false])])]
def bX5_clash_44 : List AOp := [(44, 1, .aload_n 0, 0, 0, 0, []), (45, 2, .iload 4, 0, 4, 0, []), (47, 2, .iload 5, 0, 5, 0, []), (49, 3, .invokevirtual 170, 0, 59, 3, [(5,[])]), (52, 2, .istore 6, 0, 6, 0, []), (54, 2, .iload 6, 0, 6, 0, []), (56, 3, .ifCond .eq 29, 0, 0, 0, [(85,[true,false,true,true,true,true,true]), (59,[true,false,true,true,true,true,true])])]
def bX5_clash_59 : List AOp := [(59, 1, .iload_n 3, 0, 3, 0, []), (60, 3, .ifCond .ne 25, 0, 0, 0, [(85,[true,false,true,true,true,true,true]), (63,[false,false,true,false,true,true,true])])]
def bX5_clash_63 : List AOp := [(63, 1, .iload_n 2, 0, 2, 0, []), (64, 3, .ifCond .ne 8, 0, 0, 0, [(72,[false,false,true,false,false,true,true]), (67,[false,false,false,false,true,false,false])])]
def bX5_clash_67 : List AOp := [(67, 2, .iload 4, 0, 4, 0, []), (69, 3, .goto 15, 0, 0, 0, [(84,[false,false,false,false,false,false,false])])]
def bX5_clash_72 : List AOp := [(72, 1, .iload_n 2, 0, 2, 0, []), (73, 1, .iconst 1, 1, 0, 0, []), (74, 3, .if_icmp .ne 8, 0, 0, 0, [(82,[false,false,false,false,false,false,true]), (77,[false,false,false,false,false,true,false])])]
def bX5_clash_77 : List AOp := [(77, 2, .iload 5, 0, 5, 0, []), (79, 3, .goto 5, 0, 0, 0, [(84,[false,false,false,false,false,false,false])])]
def bX5_clash_82 : List AOp := [(82, 2, .iload 6, 0, 6, 0, []), (84, 0, .nop, 0, 0, 0, [(84,[false,false,false,false,false,false,false])])]
def bX5_clash_84 : List AOp := [(84, 1, .ireturn, 0, 0, 0, [])]
def bX5_clash_85 : List AOp := [(85, 2, .iload 6, 0, 6, 0, []), (87, 3, .ifCond .eq 6, 0, 0, 0, [(93,[true,false,true,true,true,true,false]), (90,[true,false,true,true,true,true,false])])]
def bX5_clash_90 : List AOp := [(90, 3, .iinc 3 (-1), (-1), 3, 0, []), (93, 0, .nop, 0, 0, 0, [(93,[true,false,true,true,true,true,false])])]
def bX5_clash_93 : List AOp := [(93, 3, .iinc 5 1, 1, 5, 0, []), (96, 3, .goto (-59), 0, 0, 0, [(37,[true,false,true,true,true,true,false])])]
def bX5_clash_99 : List AOp := [(99, 3, .iinc 4 1, 1, 4, 0, []), (102, 3, .goto (-78), 0, 0, 0, [(24,[true,false,true,true,true,false,false])])]
def bX5_clash_105 : List AOp := [(105, 1, .iconst (-1), (-1), 0, 0, []), (106, 1, .ireturn, 0, 0, 0, [])]
def blX5_clash : List (Nat × List AOp) := [(0, bX5_clash_0), (4, bX5_clash_4), (8, bX5_clash_8), (13, bX5_clash_13), (15, bX5_clash_15), (24, bX5_clash_24), (31, bX5_clash_31), (37, bX5_clash_37), (44, bX5_clash_44), (59, bX5_clash_59), (63, bX5_clash_63), (67, bX5_clash_67), (72, bX5_clash_72), (77, bX5_clash_77), (82, bX5_clash_82), (84, bX5_clash_84), (85, bX5_clash_85), (90, bX5_clash_90), (93, bX5_clash_93), (99, bX5_clash_99), (105, bX5_clash_105)]
def bX5_court_0 : List AOp := [(0, 1, .aload_n 0, 0, 0, 0, []), (1, 3, .getfield 24, 0, 5, 3, []), (4, 1, .iload_n 1, 0, 1, 0, []), (5, 3, .invokevirtual 89, 0, 10, 2, [(2,[])]), (8, 3, .ifCond .eq 12, 0, 0, 0, [(20,[false,false,false]), (11,[true,true,true])])]
def bX5_court_11 : List AOp := [(11, 1, .iload_n 2, 0, 2, 0, []), (12, 3, .ifCond .lt 8, 0, 0, 0, [(20,[false,false,false]), (15,[true,true,true])])]
def bX5_court_15 : List AOp := [(15, 1, .iload_n 2, 0, 2, 0, []), (16, 1, .iconst 2, 2, 0, 0, []), (17, 3, .if_icmp .le 5, 0, 0, 0, [(22,[true,true,true]), (20,[false,false,false])])]
def bX5_court_20 : List AOp := [(20, 1, .iconst 0, 0, 0, 0, []), (21, 1, .ireturn, 0, 0, 0, [])]
def bX5_court_22 : List AOp := [(22, 1, .aload_n 0, 0, 0, 0, []), (23, 3, .getfield 64, 0, 5, 10, []), (26, 1, .iload_n 1, 0, 1, 0, []), (27, 1, .iload_n 2, 0, 2, 0, []), (28, 1, .iastore, 0, 0, 0, []), (29, 1, .iconst 1, 1, 0, 0, []), (30, 1, .ireturn, 0, 0, 0, [])]
def blX5_court : List (Nat × List AOp) := [(0, bX5_court_0), (11, bX5_court_11), (15, bX5_court_15), (20, bX5_court_20), (22, bX5_court_22)]
def bX5_otherwise_0 : List AOp := [(0, 1, .iload_n 1, 0, 1, 0, []), (1, 3, .ifCond .ge 5, 0, 0, 0, [(6,[true,true,false,false]), (4,[false,false,false,false])])]
def bX5_otherwise_4 : List AOp := [(4, 1, .iconst (-1), (-1), 0, 0, []), (5, 1, .ireturn, 0, 0, 0, [])]
def bX5_otherwise_6 : List AOp := [(6, 1, .aload_n 0, 0, 0, 0, []), (7, 3, .invokevirtual 103, 0, 58, 1, [(5,[])]), (10, 1, .iload_n 1, 0, 1, 0, []), (11, 1, .istore_n 2, 0, 2, 0, []), (12, 1, .iconst 0, 0, 0, 0, []), (13, 1, .istore_n 3, 0, 3, 0, []), (14, 0, .nop, 0, 0, 0, [(14,[true,false,true,true])])]
def bX5_otherwise_14 : List AOp := [(14, 1, .iload_n 3, 0, 3, 0, []), (15, 2, .bipush 12, 12, 0, 0, []), (17, 3, .if_icmp .ge 26, 0, 0, 0, [(43,[false,false,false,false]), (20,[true,false,true,true])])]
def bX5_otherwise_20 : List AOp := [(20, 1, .aload_n 0, 0, 0, 0, []), (21, 1, .iload_n 3, 0, 3, 0, []), (22, 3, .invokevirtual 173, 0, 61, 2, [(5,[])]), (25, 3, .ifCond .eq 12, 0, 0, 0, [(37,[true,false,true,true]), (28,[true,false,true,true])])]
def bX5_otherwise_28 : List AOp := [(28, 1, .iload_n 2, 0, 2, 0, []), (29, 3, .ifCond .ne 5, 0, 0, 0, [(34,[true,false,true,true]), (32,[false,false,false,true])])]
def bX5_otherwise_32 : List AOp := [(32, 1, .iload_n 3, 0, 3, 0, []), (33, 1, .ireturn, 0, 0, 0, [])]
def bX5_otherwise_34 : List AOp := [(34, 3, .iinc 2 (-1), (-1), 2, 0, []), (37, 0, .nop, 0, 0, 0, [(37,[true,false,true,true])])]
def bX5_otherwise_37 : List AOp := [(37, 3, .iinc 3 1, 1, 3, 0, []), (40, 3, .goto (-26), 0, 0, 0, [(14,[true,false,true,true])])]
def bX5_otherwise_43 : List AOp := [(43, 1, .iconst (-1), (-1), 0, 0, []), (44, 1, .ireturn, 0, 0, 0, [])]
def blX5_otherwise : List (Nat × List AOp) := [(0, bX5_otherwise_0), (4, bX5_otherwise_4), (6, bX5_otherwise_6), (14, bX5_otherwise_14), (20, bX5_otherwise_20), (28, bX5_otherwise_28), (32, bX5_otherwise_32), (34, bX5_otherwise_34), (37, bX5_otherwise_37), (43, bX5_otherwise_43)]
def bX5_look_0 : List AOp := [(0, 1, .aload_n 0, 0, 0, 0, []), (1, 3, .getfield 24, 0, 5, 3, []), (4, 1, .iload_n 1, 0, 1, 0, []), (5, 3, .invokevirtual 89, 0, 10, 2, [(2,[])]), (8, 3, .ifCond .ne 5, 0, 0, 0, [(13,[true,true,true]), (11,[false,false,false])])]
def bX5_look_11 : List AOp := [(11, 1, .iconst (-1), (-1), 0, 0, []), (12, 1, .ireturn, 0, 0, 0, [])]
def bX5_look_13 : List AOp := [(13, 1, .iload_n 2, 0, 2, 0, []), (14, 54, .tableswitch 160 0 9 #[54, 64, 74, 84, 93, 100, 110, 117, 124, 142], 0, 0, 0, [(68,[true,true,false]), (78,[true,true,false]), (88,[true,true,false]), (98,[true,true,false]), (107,[true,true,false]), (114,[true,true,false]), (124,[true,true,false]), (131,[true,true,false]), (138,[true,true,false]), (156,[true,true,false]), (174,[false,false,false])])]
def bX5_look_68 : List AOp := [(68, 1, .aload_n 0, 0, 0, 0, []), (69, 3, .getfield 24, 0, 5, 3, []), (72, 3, .getfield 176, 0, 2, 0, []), (75, 1, .iload_n 1, 0, 1, 0, []), (76, 1, .iaload, 0, 0, 0, []), (77, 1, .ireturn, 0, 0, 0, [])]
def bX5_look_78 : List AOp := [(78, 1, .aload_n 0, 0, 0, 0, []), (79, 3, .getfield 24, 0, 5, 3, []), (82, 3, .getfield 179, 0, 2, 1, []), (85, 1, .iload_n 1, 0, 1, 0, []), (86, 1, .iaload, 0, 0, 0, []), (87, 1, .ireturn, 0, 0, 0, [])]
def bX5_look_88 : List AOp := [(88, 1, .aload_n 0, 0, 0, 0, []), (89, 3, .getfield 46, 0, 5, 6, []), (92, 3, .getfield 86, 0, 1, 1, []), (95, 1, .iload_n 1, 0, 1, 0, []), (96, 1, .iaload, 0, 0, 0, []), (97, 1, .ireturn, 0, 0, 0, [])]
def bX5_look_98 : List AOp := [(98, 1, .aload_n 0, 0, 0, 0, []), (99, 3, .getfield 30, 0, 5, 4, []), (102, 1, .iload_n 1, 0, 1, 0, []), (103, 3, .invokevirtual 182, 0, 2, 2, [(0,[])]), (106, 1, .ireturn, 0, 0, 0, [])]
def bX5_look_107 : List AOp := [(107, 1, .aload_n 0, 0, 0, 0, []), (108, 3, .getfield 64, 0, 5, 10, []), (111, 1, .iload_n 1, 0, 1, 0, []), (112, 1, .iaload, 0, 0, 0, []), (113, 1, .ireturn, 0, 0, 0, [])]
def bX5_look_114 : List AOp := [(114, 1, .aload_n 0, 0, 0, 0, []), (115, 3, .getfield 53, 0, 5, 7, []), (118, 3, .getfield 185, 0, 4, 2, []), (121, 1, .iload_n 1, 0, 1, 0, []), (122, 1, .iaload, 0, 0, 0, []), (123, 1, .ireturn, 0, 0, 0, [])]
def bX5_look_124 : List AOp := [(124, 1, .aload_n 0, 0, 0, 0, []), (125, 3, .getfield 57, 0, 5, 8, []), (128, 1, .iload_n 1, 0, 1, 0, []), (129, 1, .iaload, 0, 0, 0, []), (130, 1, .ireturn, 0, 0, 0, [])]
def bX5_look_131 : List AOp := [(131, 1, .aload_n 0, 0, 0, 0, []), (132, 3, .getfield 61, 0, 5, 9, []), (135, 1, .iload_n 1, 0, 1, 0, []), (136, 1, .iaload, 0, 0, 0, []), (137, 1, .ireturn, 0, 0, 0, [])]
def bX5_look_138 : List AOp := [(138, 1, .aload_n 0, 0, 0, 0, []), (139, 1, .iload_n 1, 0, 1, 0, []), (140, 3, .invokevirtual 188, 0, 57, 2, [(5,[])]), (143, 3, .ifCond .eq 11, 0, 0, 0, [(154,[false,false,false]), (146,[true,true,false])])]
def bX5_look_146 : List AOp := [(146, 1, .aload_n 0, 0, 0, 0, []), (147, 1, .iload_n 1, 0, 1, 0, []), (148, 3, .invokevirtual 191, 0, 55, 2, [(5,[])]), (151, 3, .goto 4, 0, 0, 0, [(155,[false,false,false])])]
def bX5_look_154 : List AOp := [(154, 1, .iconst (-1), (-1), 0, 0, []), (155, 0, .nop, 0, 0, 0, [(155,[false,false,false])])]
def bX5_look_155 : List AOp := [(155, 1, .ireturn, 0, 0, 0, [])]
def bX5_look_156 : List AOp := [(156, 1, .aload_n 0, 0, 0, 0, []), (157, 1, .iload_n 1, 0, 1, 0, []), (158, 3, .invokevirtual 188, 0, 57, 2, [(5,[])]), (161, 3, .ifCond .eq 11, 0, 0, 0, [(172,[false,false,false]), (164,[true,true,false])])]
def bX5_look_164 : List AOp := [(164, 1, .aload_n 0, 0, 0, 0, []), (165, 1, .iload_n 1, 0, 1, 0, []), (166, 3, .invokevirtual 194, 0, 56, 2, [(5,[])]), (169, 3, .goto 4, 0, 0, 0, [(173,[false,false,false])])]
def bX5_look_172 : List AOp := [(172, 1, .iconst (-1), (-1), 0, 0, []), (173, 0, .nop, 0, 0, 0, [(173,[false,false,false])])]
def bX5_look_173 : List AOp := [(173, 1, .ireturn, 0, 0, 0, [])]
def bX5_look_174 : List AOp := [(174, 1, .iconst (-1), (-1), 0, 0, []), (175, 1, .ireturn, 0, 0, 0, [])]
def blX5_look : List (Nat × List AOp) := [(0, bX5_look_0), (11, bX5_look_11), (13, bX5_look_13), (68, bX5_look_68), (78, bX5_look_78), (88, bX5_look_88), (98, bX5_look_98), (107, bX5_look_107), (114, bX5_look_114), (124, bX5_look_124), (131, bX5_look_131), (138, bX5_look_138), (146, bX5_look_146), (154, bX5_look_154), (155, bX5_look_155), (156, bX5_look_156), (164, bX5_look_164), (172, bX5_look_172), (173, bX5_look_173), (174, bX5_look_174)]
def bX5_count_0 : List AOp := [(0, 1, .iload_n 1, 0, 1, 0, []), (1, 47, .tableswitch 116 0 7 #[47, 55, 63, 71, 79, 87, 99, 107], 0, 0, 0, [(48,[true,false]), (56,[true,false]), (64,[true,false]), (72,[true,false]), (80,[true,false]), (88,[true,false]), (100,[true,false]), (108,[true,false]), (117,[false,false])])]
def bX5_count_48 : List AOp := [(48, 1, .aload_n 0, 0, 0, 0, []), (49, 3, .getfield 14, 0, 5, 0, []), (52, 3, .getfield 197, 0, 2, 2, []), (55, 1, .ireturn, 0, 0, 0, [])]
def bX5_count_56 : List AOp := [(56, 1, .aload_n 0, 0, 0, 0, []), (57, 3, .getfield 18, 0, 5, 1, []), (60, 3, .getfield 197, 0, 2, 2, []), (63, 1, .ireturn, 0, 0, 0, [])]
def bX5_count_64 : List AOp := [(64, 1, .aload_n 0, 0, 0, 0, []), (65, 3, .getfield 21, 0, 5, 2, []), (68, 3, .getfield 197, 0, 2, 2, []), (71, 1, .ireturn, 0, 0, 0, [])]
def bX5_count_72 : List AOp := [(72, 1, .aload_n 0, 0, 0, 0, []), (73, 3, .getfield 24, 0, 5, 3, []), (76, 3, .getfield 197, 0, 2, 2, []), (79, 1, .ireturn, 0, 0, 0, [])]
def bX5_count_80 : List AOp := [(80, 1, .aload_n 0, 0, 0, 0, []), (81, 3, .getfield 37, 0, 5, 5, []), (84, 3, .getfield 83, 0, 3, 9, []), (87, 1, .ireturn, 0, 0, 0, [])]
def bX5_count_88 : List AOp := [(88, 1, .aload_n 0, 0, 0, 0, []), (89, 3, .invokevirtual 103, 0, 58, 1, [(5,[])]), (92, 1, .aload_n 0, 0, 0, 0, []), (93, 3, .invokevirtual 110, 0, 53, 1, [(5,[])]), (96, 3, .invokestatic 200, 0, 104, 1, []), (99, 1, .ireturn, 0, 0, 0, [])]
def bX5_count_100 : List AOp := [(100, 1, .aload_n 0, 0, 0, 0, []), (101, 3, .getfield 53, 0, 5, 7, []), (104, 3, .getfield 146, 0, 4, 3, []), (107, 1, .ireturn, 0, 0, 0, [])]
def bX5_count_108 : List AOp := [(108, 1, .aload_n 0, 0, 0, 0, []), (109, 3, .invokevirtual 103, 0, 58, 1, [(5,[])]), (112, 1, .aload_n 0, 0, 0, 0, []), (113, 3, .invokevirtual 205, 0, 60, 1, [(5,[])]), (116, 1, .ireturn, 0, 0, 0, [])]
def bX5_count_117 : List AOp := [(117, 1, .iconst (-1), (-1), 0, 0, []), (118, 1, .ireturn, 0, 0, 0, [])]
def blX5_count : List (Nat × List AOp) := [(0, bX5_count_0), (48, bX5_count_48), (56, bX5_count_56), (64, bX5_count_64), (72, bX5_count_72), (80, bX5_count_80), (88, bX5_count_88), (100, bX5_count_100), (108, bX5_count_108), (117, bX5_count_117)]
def bX5_holds_0 : List AOp := [(0, 1, .iload_n 0, 0, 0, 0, []), (1, 1, .iload_n 1, 0, 1, 0, []), (2, 1, .ishr, 0, 0, 0, []), (3, 1, .iconst 1, 1, 0, 0, []), (4, 1, .iand, 0, 0, 0, []), (5, 3, .ifCond .eq 7, 0, 0, 0, [(12,[false,false]), (8,[false,false])])]
def bX5_holds_8 : List AOp := [(8, 1, .iconst 1, 1, 0, 0, []), (9, 3, .goto 4, 0, 0, 0, [(13,[false,false])])]
def bX5_holds_12 : List AOp := [(12, 1, .iconst 0, 0, 0, 0, []), (13, 0, .nop, 0, 0, 0, [(13,[false,false])])]
def bX5_holds_13 : List AOp := [(13, 1, .ireturn, 0, 0, 0, [])]
def blX5_holds : List (Nat × List AOp) := [(0, bX5_holds_0), (8, bX5_holds_8), (12, bX5_holds_12), (13, bX5_holds_13)]
def bX5_allDeeds_0 : List AOp := [(0, 1, .iconst 1, 1, 0, 0, []), (1, 1, .aload_n 0, 0, 0, 0, []), (2, 3, .getfield 24, 0, 5, 3, []), (5, 3, .getfield 197, 0, 2, 2, []), (8, 1, .ishl, 0, 0, 0, []), (9, 1, .iconst 1, 1, 0, 0, []), (10, 1, .isub, 0, 0, 0, []), (11, 1, .ireturn, 0, 0, 0, [])]
def blX5_allDeeds : List (Nat × List AOp) := [(0, bX5_allDeeds_0)]
def bX5_areDeeds_0 : List AOp := [(0, 1, .iload_n 1, 0, 1, 0, []), (1, 1, .aload_n 0, 0, 0, 0, []), (2, 3, .invokevirtual 126, 0, 50, 1, [(5,[])]), (5, 1, .iconst (-1), (-1), 0, 0, []), (6, 1, .ixor, 0, 0, 0, []), (7, 1, .iand, 0, 0, 0, []), (8, 3, .ifCond .ne 7, 0, 0, 0, [(15,[false,false]), (11,[false,false])])]
def bX5_areDeeds_11 : List AOp := [(11, 1, .iconst 1, 1, 0, 0, []), (12, 3, .goto 4, 0, 0, 0, [(16,[false,false])])]
def bX5_areDeeds_15 : List AOp := [(15, 1, .iconst 0, 0, 0, 0, []), (16, 0, .nop, 0, 0, 0, [(16,[false,false])])]
def bX5_areDeeds_16 : List AOp := [(16, 1, .ireturn, 0, 0, 0, [])]
def blX5_areDeeds : List (Nat × List AOp) := [(0, bX5_areDeeds_0), (11, bX5_areDeeds_11), (15, bX5_areDeeds_15), (16, bX5_areDeeds_16)]
def bX5_isTrue_0 : List AOp := [(0, 1, .aload_n 0, 0, 0, 0, []), (1, 3, .getfield 67, 0, 5, 11, []), (4, 1, .iload_n 1, 0, 1, 0, []), (5, 3, .invokestatic 135, 0, 49, 2, []), (8, 1, .ireturn, 0, 0, 0, [])]
def blX5_isTrue : List (Nat × List AOp) := [(0, bX5_isTrue_0)]
def bX5_forgedOnes_0 : List AOp := [(0, 1, .aload_n 0, 0, 0, 0, []), (1, 3, .invokevirtual 126, 0, 50, 1, [(5,[])]), (4, 1, .aload_n 0, 0, 0, 0, []), (5, 3, .getfield 67, 0, 5, 11, []), (8, 1, .iconst (-1), (-1), 0, 0, []), (9, 1, .ixor, 0, 0, 0, []), (10, 1, .iand, 0, 0, 0, []), (11, 1, .ireturn, 0, 0, 0, [])]
def blX5_forgedOnes : List (Nat × List AOp) := [(0, bX5_forgedOnes_0)]
def bX5_canBeMarked_0 : List AOp := [(0, 1, .iload_n 1, 0, 1, 0, []), (1, 35, .tableswitch 87 0 4 #[35, 44, 53, 62, 78], 0, 0, 0, [(36,[true,false,true]), (45,[true,false,true]), (54,[true,false,true]), (63,[false,false,true]), (79,[true,false,true]), (88,[false,false,false])])]
def bX5_canBeMarked_36 : List AOp := [(36, 1, .aload_n 0, 0, 0, 0, []), (37, 3, .getfield 14, 0, 5, 0, []), (40, 1, .iload_n 2, 0, 2, 0, []), (41, 3, .invokevirtual 89, 0, 10, 2, [(2,[])]), (44, 1, .ireturn, 0, 0, 0, [])]
def bX5_canBeMarked_45 : List AOp := [(45, 1, .aload_n 0, 0, 0, 0, []), (46, 3, .getfield 18, 0, 5, 1, []), (49, 1, .iload_n 2, 0, 2, 0, []), (50, 3, .invokevirtual 89, 0, 10, 2, [(2,[])]), (53, 1, .ireturn, 0, 0, 0, [])]
def bX5_canBeMarked_54 : List AOp := [(54, 1, .aload_n 0, 0, 0, 0, []), (55, 3, .getfield 21, 0, 5, 2, []), (58, 1, .iload_n 2, 0, 2, 0, []), (59, 3, .invokevirtual 89, 0, 10, 2, [(2,[])]), (62, 1, .ireturn, 0, 0, 0, [])]
def bX5_canBeMarked_63 : List AOp := [(63, 1, .iload_n 2, 0, 2, 0, []), (64, 3, .ifCond .lt 13, 0, 0, 0, [(77,[false,false,false]), (67,[false,false,true])])]
def bX5_canBeMarked_67 : List AOp := [(67, 1, .iload_n 2, 0, 2, 0, []), (68, 2, .bipush 8, 8, 0, 0, []), (70, 3, .if_icmp .ge 7, 0, 0, 0, [(77,[false,false,false]), (73,[false,false,false])])]
def bX5_canBeMarked_73 : List AOp := [(73, 1, .iconst 1, 1, 0, 0, []), (74, 3, .goto 4, 0, 0, 0, [(78,[false,false,false])])]
def bX5_canBeMarked_77 : List AOp := [(77, 1, .iconst 0, 0, 0, 0, []), (78, 0, .nop, 0, 0, 0, [(78,[false,false,false])])]
def bX5_canBeMarked_78 : List AOp := [(78, 1, .ireturn, 0, 0, 0, [])]
def bX5_canBeMarked_79 : List AOp := [(79, 1, .aload_n 0, 0, 0, 0, []), (80, 3, .getfield 24, 0, 5, 3, []), (83, 1, .iload_n 2, 0, 2, 0, []), (84, 3, .invokevirtual 89, 0, 10, 2, [(2,[])]), (87, 1, .ireturn, 0, 0, 0, [])]
def bX5_canBeMarked_88 : List AOp := [(88, 1, .iconst 0, 0, 0, 0, []), (89, 1, .ireturn, 0, 0, 0, [])]
def blX5_canBeMarked : List (Nat × List AOp) := [(0, bX5_canBeMarked_0), (36, bX5_canBeMarked_36), (45, bX5_canBeMarked_45), (54, bX5_canBeMarked_54), (63, bX5_canBeMarked_63), (67, bX5_canBeMarked_67), (73, bX5_canBeMarked_73), (77, bX5_canBeMarked_77), (78, bX5_canBeMarked_78), (79, bX5_canBeMarked_79), (88, bX5_canBeMarked_88)]
def bX5_ownFirst_0 : List AOp := [(0, 1, .aload_n 0, 0, 0, 0, []), (1, 3, .getfield 24, 0, 5, 3, []), (4, 1, .iload_n 1, 0, 1, 0, []), (5, 3, .invokevirtual 89, 0, 10, 2, [(2,[])]), (8, 3, .ifCond .eq 15, 0, 0, 0, [(23,[true,true,false]), (11,[true,true,false])])]
def bX5_ownFirst_11 : List AOp := [(11, 1, .aload_n 0, 0, 0, 0, []), (12, 3, .getfield 24, 0, 5, 3, []), (15, 3, .getfield 176, 0, 2, 0, []), (18, 1, .iload_n 1, 0, 1, 0, []), (19, 1, .iaload, 0, 0, 0, []), (20, 3, .goto 4, 0, 0, 0, [(24,[true,true,false])])]
def bX5_ownFirst_23 : List AOp := [(23, 1, .iconst 0, 0, 0, 0, []), (24, 0, .nop, 0, 0, 0, [(24,[true,true,false])])]
def bX5_ownFirst_24 : List AOp := [(24, 1, .istore_n 2, 0, 2, 0, []), (25, 1, .aload_n 0, 0, 0, 0, []), (26, 3, .getfield 14, 0, 5, 0, []), (29, 1, .aload_n 0, 0, 0, 0, []), (30, 3, .getfield 30, 0, 5, 4, []), (33, 1, .iload_n 1, 0, 1, 0, []), (34, 1, .iconst 0, 0, 0, 0, []), (35, 3, .invokevirtual 132, 0, 1, 3, [(0,[])]), (38, 1, .iload_n 2, 0, 2, 0, []), (39, 3, .invokevirtual 208, 0, 13, 3, [(2,[])]), (42, 1, .istore_n 2, 0, 2, 0, []), (43, 1, .aload_n 0, 0, 0, 0, []), (44, 3, .getfield 18, 0, 5, 1, []), (47, 1, .aload_n 0, 0, 0, 0, []), (48, 3, .getfield 30, 0, 5, 4, []), (51, 1, .iload_n 1, 0, 1, 0, []), (52, 1, .iconst 1, 1, 0, 0, []), (53, 3, .invokevirtual 132, 0, 1, 3, [(0,[])]), (56, 1, .iload_n 2, 0, 2, 0, []), (57, 3, .invokevirtual 208, 0, 13, 3, [(2,[])]), (60, 1, .istore_n 2, 0, 2, 0, []), (61, 1, .aload_n 0, 0, 0, 0, []), (62, 3, .getfield 21, 0, 5, 2, []), (65, 1, .aload_n 0, 0, 0, 0, []), (66, 3, .getfield 30, 0, 5, 4, []), (69, 1, .iload_n 1, 0, 1, 0, []), (70, 1, .iconst 2, 2, 0, 0, []), (71, 3, .invokevirtual 132, 0, 1, 3, [(0,[])]), (74, 1, .iload_n 2, 0, 2, 0, []), (75, 3, .invokevirtual 208, 0, 13, 3, [(2,[])]), (78, 1, .ireturn, 0, 0, 0, [])]
def blX5_ownFirst : List (Nat × List AOp) := [(0, bX5_ownFirst_0), (11, bX5_ownFirst_11), (23, bX5_ownFirst_23), (24, bX5_ownFirst_24)]
def bX5_ownLast_0 : List AOp := [(0, 1, .aload_n 0, 0, 0, 0, []), (1, 3, .getfield 24, 0, 5, 3, []), (4, 1, .iload_n 1, 0, 1, 0, []), (5, 3, .invokevirtual 89, 0, 10, 2, [(2,[])]), (8, 3, .ifCond .eq 15, 0, 0, 0, [(23,[true,true,false]), (11,[true,true,false])])]
def bX5_ownLast_11 : List AOp := [(11, 1, .aload_n 0, 0, 0, 0, []), (12, 3, .getfield 24, 0, 5, 3, []), (15, 3, .getfield 179, 0, 2, 1, []), (18, 1, .iload_n 1, 0, 1, 0, []), (19, 1, .iaload, 0, 0, 0, []), (20, 3, .goto 4, 0, 0, 0, [(24,[true,true,false])])]
def bX5_ownLast_23 : List AOp := [(23, 1, .iconst 0, 0, 0, 0, []), (24, 0, .nop, 0, 0, 0, [(24,[true,true,false])])]
def bX5_ownLast_24 : List AOp := [(24, 1, .istore_n 2, 0, 2, 0, []), (25, 1, .aload_n 0, 0, 0, 0, []), (26, 3, .getfield 14, 0, 5, 0, []), (29, 1, .aload_n 0, 0, 0, 0, []), (30, 3, .getfield 30, 0, 5, 4, []), (33, 1, .iload_n 1, 0, 1, 0, []), (34, 1, .iconst 0, 0, 0, 0, []), (35, 3, .invokevirtual 132, 0, 1, 3, [(0,[])]), (38, 1, .iload_n 2, 0, 2, 0, []), (39, 3, .invokevirtual 211, 0, 14, 3, [(2,[])]), (42, 1, .istore_n 2, 0, 2, 0, []), (43, 1, .aload_n 0, 0, 0, 0, []), (44, 3, .getfield 18, 0, 5, 1, []), (47, 1, .aload_n 0, 0, 0, 0, []), (48, 3, .getfield 30, 0, 5, 4, []), (51, 1, .iload_n 1, 0, 1, 0, []), (52, 1, .iconst 1, 1, 0, 0, []), (53, 3, .invokevirtual 132, 0, 1, 3, [(0,[])]), (56, 1, .iload_n 2, 0, 2, 0, []), (57, 3, .invokevirtual 211, 0, 14, 3, [(2,[])]), (60, 1, .istore_n 2, 0, 2, 0, []), (61, 1, .aload_n 0, 0, 0, 0, []), (62, 3, .getfield 21, 0, 5, 2, []), (65, 1, .aload_n 0, 0, 0, 0, []), (66, 3, .getfield 30, 0, 5, 4, []), (69, 1, .iload_n 1, 0, 1, 0, []), (70, 1, .iconst 2, 2, 0, 0, []), (71, 3, .invokevirtual 132, 0, 1, 3, [(0,[])]), (74, 1, .iload_n 2, 0, 2, 0, []), (75, 3, .invokevirtual 211, 0, 14, 3, [(2,[])]), (78, 1, .ireturn, 0, 0, 0, [])]
def blX5_ownLast : List (Nat × List AOp) := [(0, bX5_ownLast_0), (11, bX5_ownLast_11), (23, bX5_ownLast_23), (24, bX5_ownLast_24)]
def bX5_hasOwnYear_0 : List AOp := [(0, 1, .aload_n 0, 0, 0, 0, []), (1, 1, .iload_n 1, 0, 1, 0, []), (2, 3, .invokevirtual 191, 0, 55, 2, [(5,[])]), (5, 1, .aload_n 0, 0, 0, 0, []), (6, 1, .iload_n 1, 0, 1, 0, []), (7, 3, .invokevirtual 194, 0, 56, 2, [(5,[])]), (10, 3, .if_icmp .gt 7, 0, 0, 0, [(17,[false,false]), (13,[false,false])])]
def bX5_hasOwnYear_13 : List AOp := [(13, 1, .iconst 1, 1, 0, 0, []), (14, 3, .goto 4, 0, 0, 0, [(18,[false,false])])]
def bX5_hasOwnYear_17 : List AOp := [(17, 1, .iconst 0, 0, 0, 0, []), (18, 0, .nop, 0, 0, 0, [(18,[false,false])])]
def bX5_hasOwnYear_18 : List AOp := [(18, 1, .ireturn, 0, 0, 0, [])]
def blX5_hasOwnYear : List (Nat × List AOp) := [(0, bX5_hasOwnYear_0), (13, bX5_hasOwnYear_13), (17, bX5_hasOwnYear_17), (18, bX5_hasOwnYear_18)]
def bX5_settle_0 : List AOp := [(0, 1, .aload_n 0, 0, 0, 0, []), (1, 3, .getfield 71, 0, 5, 12, []), (4, 3, .ifCond .eq 4, 0, 0, 0, [(8,[true,false]), (7,[false,false])])]
def bX5_settle_7 : List AOp := [(7, 1, .return_, 0, 0, 0, [])]
def bX5_settle_8 : List AOp := [(8, 1, .iconst 0, 0, 0, 0, []), (9, 1, .istore_n 1, 0, 1, 0, []), (10, 0, .nop, 0, 0, 0, [(10,[true,true])])]
def bX5_settle_10 : List AOp := [(10, 1, .iload_n 1, 0, 1, 0, []), (11, 2, .bipush 12, 12, 0, 0, []), (13, 3, .if_icmp .ge 72, 0, 0, 0, [(85,[true,false]), (16,[true,true])])]
def bX5_settle_16 : List AOp := [(16, 1, .aload_n 0, 0, 0, 0, []), (17, 3, .getfield 37, 0, 5, 5, []), (20, 3, .getfield 214, 0, 3, 0, []), (23, 1, .iload_n 1, 0, 1, 0, []), (24, 1, .aload_n 0, 0, 0, 0, []), (25, 1, .iload_n 1, 0, 1, 0, []), (26, 3, .invokevirtual 191, 0, 55, 2, [(5,[])]), (29, 1, .iastore, 0, 0, 0, []), (30, 1, .aload_n 0, 0, 0, 0, []), (31, 3, .getfield 37, 0, 5, 5, []), (34, 3, .getfield 217, 0, 3, 1, []), (37, 1, .iload_n 1, 0, 1, 0, []), (38, 1, .aload_n 0, 0, 0, 0, []), (39, 1, .iload_n 1, 0, 1, 0, []), (40, 3, .invokevirtual 194, 0, 56, 2, [(5,[])]), (43, 1, .iastore, 0, 0, 0, []), (44, 1, .aload_n 0, 0, 0, 0, []), (45, 3, .getfield 37, 0, 5, 5, []), (48, 3, .getfield 220, 0, 3, 3, []), (51, 1, .iload_n 1, 0, 1, 0, []), (52, 1, .aload_n 0, 0, 0, 0, []), (53, 3, .getfield 30, 0, 5, 4, []), (56, 1, .iload_n 1, 0, 1, 0, []), (57, 1, .iconst 4, 4, 0, 0, []), (58, 3, .invokevirtual 132, 0, 1, 3, [(0,[])]), (61, 1, .iastore, 0, 0, 0, []), (62, 1, .aload_n 0, 0, 0, 0, []), (63, 3, .getfield 37, 0, 5, 5, []), (66, 3, .getfield 223, 0, 3, 2, []), (69, 1, .iload_n 1, 0, 1, 0, []), (70, 1, .aload_n 0, 0, 0, 0, []), (71, 3, .getfield 30, 0, 5, 4, []), (74, 1, .iload_n 1, 0, 1, 0, []), (75, 3, .invokevirtual 226, 0, 4, 2, [(0,[])]), (78, 1, .iastore, 0, 0, 0, []), (79, 3, .iinc 1 1, 1, 1, 0, []), (82, 3, .goto (-72), 0, 0, 0, [(10,[true,true])])]
def bX5_settle_85 : List AOp := [(85, 1, .aload_n 0, 0, 0, 0, []), (86, 1, .aload_n 0, 0, 0, 0, []), (87, 3, .invokevirtual 126, 0, 50, 1, [(5,[])]), (90, 1, .aload_n 0, 0, 0, 0, []), (91, 3, .getfield 46, 0, 5, 6, []), (94, 1, .aload_n 0, 0, 0, 0, []), (95, 3, .invokevirtual 126, 0, 50, 1, [(5,[])]), (98, 3, .invokevirtual 229, 0, 5, 2, [(1,[])]), (101, 1, .iconst (-1), (-1), 0, 0, []), (102, 1, .ixor, 0, 0, 0, []), (103, 1, .iand, 0, 0, 0, []), (104, 3, .putfield 67, 0, 5, 11, []), (107, 1, .aload_n 0, 0, 0, 0, []), (108, 3, .getfield 37, 0, 5, 5, []), (111, 1, .aload_n 0, 0, 0, 0, []), (112, 3, .getfield 67, 0, 5, 11, []), (115, 3, .invokevirtual 232, 0, 21, 2, [(3,[])]), (118, 1, .aload_n 0, 0, 0, 0, []), (119, 1, .iconst 1, 1, 0, 0, []), (120, 3, .putfield 71, 1, 5, 12, []), (123, 1, .return_, 0, 0, 0, [])]
def blX5_settle : List (Nat × List AOp) := [(0, bX5_settle_0), (7, bX5_settle_7), (8, bX5_settle_8), (10, bX5_settle_10), (16, bX5_settle_16), (85, bX5_settle_85)]
def bX5_disputed_0 : List AOp := [(0, 1, .aload_n 0, 0, 0, 0, []), (1, 1, .iload_n 1, 0, 1, 0, []), (2, 3, .invokevirtual 117, 0, 52, 2, [(5,[])]), (5, 3, .ifCond .eq 26, 0, 0, 0, [(31,[false,false,false]), (8,[true,true,true])])]
def bX5_disputed_8 : List AOp := [(8, 1, .aload_n 0, 0, 0, 0, []), (9, 1, .iload_n 2, 0, 2, 0, []), (10, 3, .invokevirtual 117, 0, 52, 2, [(5,[])]), (13, 3, .ifCond .eq 18, 0, 0, 0, [(31,[false,false,false]), (16,[true,true,true])])]
def bX5_disputed_16 : List AOp := [(16, 1, .aload_n 0, 0, 0, 0, []), (17, 3, .getfield 57, 0, 5, 8, []), (20, 1, .iload_n 1, 0, 1, 0, []), (21, 1, .iaload, 0, 0, 0, []), (22, 1, .aload_n 0, 0, 0, 0, []), (23, 3, .getfield 57, 0, 5, 8, []), (26, 1, .iload_n 2, 0, 2, 0, []), (27, 1, .iaload, 0, 0, 0, []), (28, 3, .if_icmp .ne 5, 0, 0, 0, [(33,[true,true,true]), (31,[false,false,false])])]
def bX5_disputed_31 : List AOp := [(31, 1, .iconst 0, 0, 0, 0, []), (32, 1, .ireturn, 0, 0, 0, [])]
def bX5_disputed_33 : List AOp := [(33, 1, .aload_n 0, 0, 0, 0, []), (34, 3, .getfield 61, 0, 5, 9, []), (37, 1, .iload_n 1, 0, 1, 0, []), (38, 1, .iaload, 0, 0, 0, []), (39, 1, .aload_n 0, 0, 0, 0, []), (40, 3, .getfield 61, 0, 5, 9, []), (43, 1, .iload_n 2, 0, 2, 0, []), (44, 1, .iaload, 0, 0, 0, []), (45, 1, .iand, 0, 0, 0, []), (46, 1, .ireturn, 0, 0, 0, [])]
def blX5_disputed : List (Nat × List AOp) := [(0, bX5_disputed_0), (8, bX5_disputed_8), (16, bX5_disputed_16), (31, bX5_disputed_31), (33, bX5_disputed_33)]
def bX5_clashes_0 : List AOp := [(0, 1, .iconst 0, 0, 0, 0, []), (1, 1, .istore_n 1, 0, 1, 0, []), (2, 1, .iconst 0, 0, 0, 0, []), (3, 1, .istore_n 2, 0, 2, 0, []), (4, 0, .nop, 0, 0, 0, [(4,[true,true,true,false])])]
def bX5_clashes_4 : List AOp := [(4, 1, .iload_n 2, 0, 2, 0, []), (5, 2, .bipush 12, 12, 0, 0, []), (7, 3, .if_icmp .ge 37, 0, 0, 0, [(44,[false,true,false,false]), (10,[true,true,true,false])])]
def bX5_clashes_10 : List AOp := [(10, 1, .iload_n 2, 0, 2, 0, []), (11, 1, .iconst 1, 1, 0, 0, []), (12, 1, .iadd, 0, 0, 0, []), (13, 1, .istore_n 3, 0, 3, 0, []), (14, 0, .nop, 0, 0, 0, [(14,[true,true,true,true])])]
def bX5_clashes_14 : List AOp := [(14, 1, .iload_n 3, 0, 3, 0, []), (15, 2, .bipush 12, 12, 0, 0, []), (17, 3, .if_icmp .ge 21, 0, 0, 0, [(38,[true,true,true,false]), (20,[true,true,true,true])])]
def bX5_clashes_20 : List AOp := [(20, 1, .aload_n 0, 0, 0, 0, []), (21, 1, .iload_n 2, 0, 2, 0, []), (22, 1, .iload_n 3, 0, 3, 0, []), (23, 3, .invokevirtual 170, 0, 59, 3, [(5,[])]), (26, 3, .ifCond .eq 6, 0, 0, 0, [(32,[true,true,true,true]), (29,[true,true,true,true])])]
def bX5_clashes_29 : List AOp := [(29, 3, .iinc 1 1, 1, 1, 0, []), (32, 0, .nop, 0, 0, 0, [(32,[true,true,true,true])])]
def bX5_clashes_32 : List AOp := [(32, 3, .iinc 3 1, 1, 3, 0, []), (35, 3, .goto (-21), 0, 0, 0, [(14,[true,true,true,true])])]
def bX5_clashes_38 : List AOp := [(38, 3, .iinc 2 1, 1, 2, 0, []), (41, 3, .goto (-37), 0, 0, 0, [(4,[true,true,true,false])])]
def bX5_clashes_44 : List AOp := [(44, 1, .iload_n 1, 0, 1, 0, []), (45, 1, .ireturn, 0, 0, 0, [])]
def blX5_clashes : List (Nat × List AOp) := [(0, bX5_clashes_0), (4, bX5_clashes_4), (10, bX5_clashes_10), (14, bX5_clashes_14), (20, bX5_clashes_20), (29, bX5_clashes_29), (32, bX5_clashes_32), (38, bX5_clashes_38), (44, bX5_clashes_44)]
def bX5_isMisjudged_0 : List AOp := [(0, 1, .aload_n 0, 0, 0, 0, []), (1, 3, .getfield 64, 0, 5, 10, []), (4, 1, .iload_n 1, 0, 1, 0, []), (5, 1, .iaload, 0, 0, 0, []), (6, 1, .aload_n 0, 0, 0, 0, []), (7, 1, .iload_n 1, 0, 1, 0, []), (8, 3, .invokevirtual 117, 0, 52, 2, [(5,[])]), (11, 3, .ifCond .eq 7, 0, 0, 0, [(18,[false,false]), (14,[false,false])])]
def bX5_isMisjudged_14 : List AOp := [(14, 1, .iconst 2, 2, 0, 0, []), (15, 3, .goto 4, 0, 0, 0, [(19,[false,false])])]
def bX5_isMisjudged_18 : List AOp := [(18, 1, .iconst 1, 1, 0, 0, []), (19, 0, .nop, 0, 0, 0, [(19,[false,false])])]
def bX5_isMisjudged_19 : List AOp := [(19, 3, .if_icmp .ne 7, 0, 0, 0, [(26,[false,false]), (22,[false,false])])]
def bX5_isMisjudged_22 : List AOp := [(22, 1, .iconst 1, 1, 0, 0, []), (23, 3, .goto 4, 0, 0, 0, [(27,[false,false])])]
def bX5_isMisjudged_26 : List AOp := [(26, 1, .iconst 0, 0, 0, 0, []), (27, 0, .nop, 0, 0, 0, [(27,[false,false])])]
def bX5_isMisjudged_27 : List AOp := [(27, 1, .ireturn, 0, 0, 0, [])]
def blX5_isMisjudged : List (Nat × List AOp) := [(0, bX5_isMisjudged_0), (14, bX5_isMisjudged_14), (18, bX5_isMisjudged_18), (19, bX5_isMisjudged_19), (22, bX5_isMisjudged_22), (26, bX5_isMisjudged_26), (27, bX5_isMisjudged_27)]
def bX6_lies_0 : List AOp := [(0, 1, .iload_n 0, 0, 0, 0, []), (1, 1, .iload_n 1, 0, 1, 0, []), (2, 3, .if_icmp .lt 12, 0, 0, 0, [(14,[false,false,false]), (5,[true,false,true])])]
def bX6_lies_5 : List AOp := [(5, 1, .iload_n 0, 0, 0, 0, []), (6, 1, .iload_n 2, 0, 2, 0, []), (7, 3, .if_icmp .gt 7, 0, 0, 0, [(14,[false,false,false]), (10,[false,false,false])])]
def bX6_lies_10 : List AOp := [(10, 1, .iconst 1, 1, 0, 0, []), (11, 3, .goto 4, 0, 0, 0, [(15,[false,false,false])])]
def bX6_lies_14 : List AOp := [(14, 1, .iconst 0, 0, 0, 0, []), (15, 0, .nop, 0, 0, 0, [(15,[false,false,false])])]
def bX6_lies_15 : List AOp := [(15, 1, .ireturn, 0, 0, 0, [])]
def blX6_lies : List (Nat × List AOp) := [(0, bX6_lies_0), (5, bX6_lies_5), (10, bX6_lies_10), (14, bX6_lies_14), (15, bX6_lies_15)]
def bX6_isSpan_0 : List AOp := [(0, 1, .iload_n 0, 0, 0, 0, []), (1, 1, .iconst 0, 0, 0, 0, []), (2, 3, .sipush 3000, 3000, 0, 0, []), (5, 3, .invokestatic 91, 0, 62, 3, []), (8, 3, .ifCond .eq 18, 0, 0, 0, [(26,[false,false]), (11,[true,true])])]
def bX6_isSpan_11 : List AOp := [(11, 1, .iload_n 1, 0, 1, 0, []), (12, 1, .iload_n 0, 0, 0, 0, []), (13, 3, .sipush 3000, 3000, 0, 0, []), (16, 3, .invokestatic 91, 0, 62, 3, []), (19, 3, .ifCond .eq 7, 0, 0, 0, [(26,[false,false]), (22,[false,false])])]
def bX6_isSpan_22 : List AOp := [(22, 1, .iconst 1, 1, 0, 0, []), (23, 3, .goto 4, 0, 0, 0, [(27,[false,false])])]
def bX6_isSpan_26 : List AOp := [(26, 1, .iconst 0, 0, 0, 0, []), (27, 0, .nop, 0, 0, 0, [(27,[false,false])])]
def bX6_isSpan_27 : List AOp := [(27, 1, .ireturn, 0, 0, 0, [])]
def blX6_isSpan : List (Nat × List AOp) := [(0, bX6_isSpan_0), (11, bX6_isSpan_11), (22, bX6_isSpan_22), (26, bX6_isSpan_26), (27, bX6_isSpan_27)]
def bX6_has_0 : List AOp := [(0, 1, .iload_n 0, 0, 0, 0, []), (1, 1, .iload_n 1, 0, 1, 0, []), (2, 1, .ishr, 0, 0, 0, []), (3, 1, .iconst 1, 1, 0, 0, []), (4, 1, .iand, 0, 0, 0, []), (5, 1, .iconst 1, 1, 0, 0, []), (6, 3, .if_icmp .ne 7, 0, 0, 0, [(13,[false,false]), (9,[false,false])])]
def bX6_has_9 : List AOp := [(9, 1, .iconst 1, 1, 0, 0, []), (10, 3, .goto 4, 0, 0, 0, [(14,[false,false])])]
def bX6_has_13 : List AOp := [(13, 1, .iconst 0, 0, 0, 0, []), (14, 0, .nop, 0, 0, 0, [(14,[false,false])])]
def bX6_has_14 : List AOp := [(14, 1, .ireturn, 0, 0, 0, [])]
def blX6_has : List (Nat × List AOp) := [(0, bX6_has_0), (9, bX6_has_9), (13, bX6_has_13), (14, bX6_has_14)]
def bX6_isDeed_0 : List AOp := [(0, 1, .iload_n 1, 0, 1, 0, []), (1, 1, .iconst 0, 0, 0, 0, []), (2, 1, .aload_n 0, 0, 0, 0, []), (3, 3, .getfield 95, 0, 6, 6, []), (6, 1, .iconst 1, 1, 0, 0, []), (7, 1, .isub, 0, 0, 0, []), (8, 3, .invokestatic 91, 0, 62, 3, []), (11, 1, .ireturn, 0, 0, 0, [])]
def blX6_isDeed : List (Nat × List AOp) := [(0, bX6_isDeed_0)]
def bX6_person_0 : List AOp := [(0, 1, .aload_n 0, 0, 0, 0, []), (1, 3, .getfield 98, 0, 6, 3, []), (4, 2, .bipush 20, 20, 0, 0, []), (6, 3, .if_icmp .eq 11, 0, 0, 0, [(17,[false,false,false]), (9,[true,true,true])])]
def bX6_person_9 : List AOp := [(9, 1, .iload_n 1, 0, 1, 0, []), (10, 1, .iload_n 2, 0, 2, 0, []), (11, 3, .invokestatic 101, 0, 63, 2, []), (14, 3, .ifCond .ne 5, 0, 0, 0, [(19,[true,true,true]), (17,[false,false,false])])]
def bX6_person_17 : List AOp := [(17, 1, .iconst (-1), (-1), 0, 0, []), (18, 1, .ireturn, 0, 0, 0, [])]
def bX6_person_19 : List AOp := [(19, 1, .aload_n 0, 0, 0, 0, []), (20, 3, .getfield 17, 0, 6, 7, []), (23, 1, .aload_n 0, 0, 0, 0, []), (24, 3, .getfield 98, 0, 6, 3, []), (27, 1, .iload_n 1, 0, 1, 0, []), (28, 1, .iastore, 0, 0, 0, []), (29, 1, .aload_n 0, 0, 0, 0, []), (30, 3, .getfield 21, 0, 6, 8, []), (33, 1, .aload_n 0, 0, 0, 0, []), (34, 3, .getfield 98, 0, 6, 3, []), (37, 1, .iload_n 2, 0, 2, 0, []), (38, 1, .iastore, 0, 0, 0, []), (39, 1, .aload_n 0, 0, 0, 0, []), (40, 1, .dup, 0, 0, 0, []), (41, 3, .getfield 98, 0, 6, 3, []), (44, 1, .iconst 1, 1, 0, 0, []), (45, 1, .iadd, 0, 0, 0, []), (46, 3, .putfield 98, 0, 6, 3, []), (49, 1, .aload_n 0, 0, 0, 0, []), (50, 3, .getfield 98, 0, 6, 3, []), (53, 1, .iconst 1, 1, 0, 0, []), (54, 1, .isub, 0, 0, 0, []), (55, 1, .ireturn, 0, 0, 0, [])]
def blX6_person : List (Nat × List AOp) := [(0, bX6_person_0), (9, bX6_person_9), (17, bX6_person_17), (19, bX6_person_19)]
def bX6_lived_0 : List AOp := [(0, 1, .iload_n 1, 0, 1, 0, []), (1, 1, .iconst 0, 0, 0, 0, []), (2, 1, .aload_n 0, 0, 0, 0, []), (3, 3, .getfield 98, 0, 6, 3, []), (6, 1, .iconst 1, 1, 0, 0, []), (7, 1, .isub, 0, 0, 0, []), (8, 3, .invokestatic 91, 0, 62, 3, []), (11, 3, .ifCond .eq 11, 0, 0, 0, [(22,[false,false,false,false]), (14,[true,true,true,true])])]
def bX6_lived_14 : List AOp := [(14, 1, .iload_n 2, 0, 2, 0, []), (15, 1, .iload_n 3, 0, 3, 0, []), (16, 3, .invokestatic 101, 0, 63, 2, []), (19, 3, .ifCond .ne 5, 0, 0, 0, [(24,[true,true,true,true]), (22,[false,false,false,false])])]
def bX6_lived_22 : List AOp := [(22, 1, .iconst 0, 0, 0, 0, []), (23, 1, .ireturn, 0, 0, 0, [])]
def bX6_lived_24 : List AOp := [(24, 1, .aload_n 0, 0, 0, 0, []), (25, 3, .getfield 17, 0, 6, 7, []), (28, 1, .iload_n 1, 0, 1, 0, []), (29, 1, .iload_n 2, 0, 2, 0, []), (30, 1, .iastore, 0, 0, 0, []), (31, 1, .aload_n 0, 0, 0, 0, []), (32, 3, .getfield 21, 0, 6, 8, []), (35, 1, .iload_n 1, 0, 1, 0, []), (36, 1, .iload_n 3, 0, 3, 0, []), (37, 1, .iastore, 0, 0, 0, []), (38, 1, .aload_n 0, 0, 0, 0, []), (39, 1, .iconst 0, 0, 0, 0, []), (40, 3, .putfield 105, 1, 6, 30, []), (43, 1, .iconst 1, 1, 0, 0, []), (44, 1, .ireturn, 0, 0, 0, [])]
def blX6_lived : List (Nat × List AOp) := [(0, bX6_lived_0), (14, bX6_lived_14), (22, bX6_lived_22), (24, bX6_lived_24)]
def bX6_formula_0 : List AOp := [(0, 1, .aload_n 0, 0, 0, 0, []), (1, 3, .getfield 109, 0, 6, 4, []), (4, 2, .bipush 10, 10, 0, 0, []), (6, 3, .if_icmp .eq 11, 0, 0, 0, [(17,[false,false,false]), (9,[true,true,true])])]
def bX6_formula_9 : List AOp := [(9, 1, .iload_n 1, 0, 1, 0, []), (10, 1, .iload_n 2, 0, 2, 0, []), (11, 3, .invokestatic 101, 0, 63, 2, []), (14, 3, .ifCond .ne 5, 0, 0, 0, [(19,[true,true,true]), (17,[false,false,false])])]
def bX6_formula_17 : List AOp := [(17, 1, .iconst (-1), (-1), 0, 0, []), (18, 1, .ireturn, 0, 0, 0, [])]
def bX6_formula_19 : List AOp := [(19, 1, .aload_n 0, 0, 0, 0, []), (20, 3, .getfield 24, 0, 6, 9, []), (23, 1, .aload_n 0, 0, 0, 0, []), (24, 3, .getfield 109, 0, 6, 4, []), (27, 1, .iload_n 1, 0, 1, 0, []), (28, 1, .iastore, 0, 0, 0, []), (29, 1, .aload_n 0, 0, 0, 0, []), (30, 3, .getfield 27, 0, 6, 10, []), (33, 1, .aload_n 0, 0, 0, 0, []), (34, 3, .getfield 109, 0, 6, 4, []), (37, 1, .iload_n 2, 0, 2, 0, []), (38, 1, .iastore, 0, 0, 0, []), (39, 1, .aload_n 0, 0, 0, 0, []), (40, 1, .dup, 0, 0, 0, []), (41, 3, .getfield 109, 0, 6, 4, []), (44, 1, .iconst 1, 1, 0, 0, []), (45, 1, .iadd, 0, 0, 0, []), (46, 3, .putfield 109, 0, 6, 4, []), (49, 1, .aload_n 0, 0, 0, 0, []), (50, 3, .getfield 109, 0, 6, 4, []), (53, 1, .iconst 1, 1, 0, 0, []), (54, 1, .isub, 0, 0, 0, []), (55, 1, .ireturn, 0, 0, 0, [])]
def blX6_formula : List (Nat × List AOp) := [(0, bX6_formula_0), (9, bX6_formula_9), (17, bX6_formula_17), (19, bX6_formula_19)]
def bX6_seal_0 : List AOp := [(0, 1, .aload_n 0, 0, 0, 0, []), (1, 3, .getfield 112, 0, 6, 5, []), (4, 2, .bipush 8, 8, 0, 0, []), (6, 3, .if_icmp .eq 11, 0, 0, 0, [(17,[false,false,false]), (9,[true,true,true])])]
def bX6_seal_9 : List AOp := [(9, 1, .iload_n 1, 0, 1, 0, []), (10, 1, .iload_n 2, 0, 2, 0, []), (11, 3, .invokestatic 101, 0, 63, 2, []), (14, 3, .ifCond .ne 5, 0, 0, 0, [(19,[true,true,true]), (17,[false,false,false])])]
def bX6_seal_17 : List AOp := [(17, 1, .iconst (-1), (-1), 0, 0, []), (18, 1, .ireturn, 0, 0, 0, [])]
def bX6_seal_19 : List AOp := [(19, 1, .aload_n 0, 0, 0, 0, []), (20, 3, .getfield 30, 0, 6, 11, []), (23, 1, .aload_n 0, 0, 0, 0, []), (24, 3, .getfield 112, 0, 6, 5, []), (27, 1, .iload_n 1, 0, 1, 0, []), (28, 1, .iastore, 0, 0, 0, []), (29, 1, .aload_n 0, 0, 0, 0, []), (30, 3, .getfield 33, 0, 6, 12, []), (33, 1, .aload_n 0, 0, 0, 0, []), (34, 3, .getfield 112, 0, 6, 5, []), (37, 1, .iload_n 2, 0, 2, 0, []), (38, 1, .iastore, 0, 0, 0, []), (39, 1, .aload_n 0, 0, 0, 0, []), (40, 1, .dup, 0, 0, 0, []), (41, 3, .getfield 112, 0, 6, 5, []), (44, 1, .iconst 1, 1, 0, 0, []), (45, 1, .iadd, 0, 0, 0, []), (46, 3, .putfield 112, 0, 6, 5, []), (49, 1, .aload_n 0, 0, 0, 0, []), (50, 3, .getfield 112, 0, 6, 5, []), (53, 1, .iconst 1, 1, 0, 0, []), (54, 1, .isub, 0, 0, 0, []), (55, 1, .ireturn, 0, 0, 0, [])]
def blX6_seal : List (Nat × List AOp) := [(0, bX6_seal_0), (9, bX6_seal_9), (17, bX6_seal_17), (19, bX6_seal_19)]
def bX6_span_0 : List AOp := [(0, 1, .iload_n 1, 0, 1, 0, []), (1, 1, .iconst 0, 0, 0, 0, []), (2, 3, .sipush 200, 200, 0, 0, []), (5, 3, .invokestatic 91, 0, 62, 3, []), (8, 3, .ifCond .ne 5, 0, 0, 0, [(13,[true,true]), (11,[false,false])])]
def bX6_span_11 : List AOp := [(11, 1, .iconst 0, 0, 0, 0, []), (12, 1, .ireturn, 0, 0, 0, [])]
def bX6_span_13 : List AOp := [(13, 1, .aload_n 0, 0, 0, 0, []), (14, 1, .iload_n 1, 0, 1, 0, []), (15, 3, .putfield 13, 0, 6, 2, []), (18, 1, .aload_n 0, 0, 0, 0, []), (19, 1, .iconst 0, 0, 0, 0, []), (20, 3, .putfield 105, 1, 6, 30, []), (23, 1, .iconst 1, 1, 0, 0, []), (24, 1, .ireturn, 0, 0, 0, [])]
def blX6_span : List (Nat × List AOp) := [(0, bX6_span_0), (11, bX6_span_11), (13, bX6_span_13)]
def bX6_deed_0 : List AOp := [(0, 1, .aload_n 0, 0, 0, 0, []), (1, 3, .getfield 95, 0, 6, 6, []), (4, 2, .bipush 12, 12, 0, 0, []), (6, 3, .if_icmp .eq 21, 0, 0, 0, [(27,[false,false,false,false]), (9,[true,true,true,true])])]
def bX6_deed_9 : List AOp := [(9, 1, .iload_n 1, 0, 1, 0, []), (10, 1, .iload_n 2, 0, 2, 0, []), (11, 3, .invokestatic 101, 0, 63, 2, []), (14, 3, .ifCond .eq 13, 0, 0, 0, [(27,[false,false,false,false]), (17,[true,true,true,true])])]
def bX6_deed_17 : List AOp := [(17, 1, .iload_n 3, 0, 3, 0, []), (18, 1, .iconst 1, 1, 0, 0, []), (19, 2, .bipush 99, 99, 0, 0, []), (21, 3, .invokestatic 91, 0, 62, 3, []), (24, 3, .ifCond .ne 5, 0, 0, 0, [(29,[true,true,true,true]), (27,[false,false,false,false])])]
def bX6_deed_27 : List AOp := [(27, 1, .iconst (-1), (-1), 0, 0, []), (28, 1, .ireturn, 0, 0, 0, [])]
def bX6_deed_29 : List AOp := [(29, 1, .aload_n 0, 0, 0, 0, []), (30, 3, .getfield 36, 0, 6, 13, []), (33, 1, .aload_n 0, 0, 0, 0, []), (34, 3, .getfield 95, 0, 6, 6, []), (37, 1, .iload_n 1, 0, 1, 0, []), (38, 1, .iastore, 0, 0, 0, []), (39, 1, .aload_n 0, 0, 0, 0, []), (40, 3, .getfield 39, 0, 6, 14, []), (43, 1, .aload_n 0, 0, 0, 0, []), (44, 3, .getfield 95, 0, 6, 6, []), (47, 1, .iload_n 2, 0, 2, 0, []), (48, 1, .iastore, 0, 0, 0, []), (49, 1, .aload_n 0, 0, 0, 0, []), (50, 3, .getfield 42, 0, 6, 15, []), (53, 1, .aload_n 0, 0, 0, 0, []), (54, 3, .getfield 95, 0, 6, 6, []), (57, 1, .iload_n 3, 0, 3, 0, []), (58, 1, .iastore, 0, 0, 0, []), (59, 1, .aload_n 0, 0, 0, 0, []), (60, 1, .dup, 0, 0, 0, []), (61, 3, .getfield 95, 0, 6, 6, []), (64, 1, .iconst 1, 1, 0, 0, []), (65, 1, .iadd, 0, 0, 0, []), (66, 3, .putfield 95, 0, 6, 6, []), (69, 1, .aload_n 0, 0, 0, 0, []), (70, 1, .iconst 0, 0, 0, 0, []), (71, 3, .putfield 105, 1, 6, 30, []), (74, 1, .aload_n 0, 0, 0, 0, []), (75, 3, .getfield 95, 0, 6, 6, []), (78, 1, .iconst 1, 1, 0, 0, []), (79, 1, .isub, 0, 0, 0, []), (80, 1, .ireturn, 0, 0, 0, [])]
def blX6_deed : List (Nat × List AOp) := [(0, bX6_deed_0), (9, bX6_deed_9), (17, bX6_deed_17), (27, bX6_deed_27), (29, bX6_deed_29)]
def bX6_manyOf_0 : List AOp := [(0, 1, .iload_n 1, 0, 1, 0, []), (1, 35, .tableswitch 58 0 4 #[35, 40, 45, 50, 53], 0, 0, 0, [(36,[true,false]), (41,[true,false]), (46,[true,false]), (51,[false,false]), (54,[true,false]), (59,[false,false])])]
def bX6_manyOf_36 : List AOp := [(36, 1, .aload_n 0, 0, 0, 0, []), (37, 3, .getfield 98, 0, 6, 3, []), (40, 1, .ireturn, 0, 0, 0, [])]
def bX6_manyOf_41 : List AOp := [(41, 1, .aload_n 0, 0, 0, 0, []), (42, 3, .getfield 109, 0, 6, 4, []), (45, 1, .ireturn, 0, 0, 0, [])]
def bX6_manyOf_46 : List AOp := [(46, 1, .aload_n 0, 0, 0, 0, []), (47, 3, .getfield 112, 0, 6, 5, []), (50, 1, .ireturn, 0, 0, 0, [])]
def bX6_manyOf_51 : List AOp := [(51, 2, .bipush 8, 8, 0, 0, []), (53, 1, .ireturn, 0, 0, 0, [])]
def bX6_manyOf_54 : List AOp := [(54, 1, .aload_n 0, 0, 0, 0, []), (55, 3, .getfield 95, 0, 6, 6, []), (58, 1, .ireturn, 0, 0, 0, [])]
def bX6_manyOf_59 : List AOp := [(59, 1, .iconst 0, 0, 0, 0, []), (60, 1, .ireturn, 0, 0, 0, [])]
def blX6_manyOf : List (Nat × List AOp) := [(0, bX6_manyOf_0), (36, bX6_manyOf_36), (41, bX6_manyOf_41), (46, bX6_manyOf_46), (51, bX6_manyOf_51), (54, bX6_manyOf_54), (59, bX6_manyOf_59)]
def bX6_hasMark_0 : List AOp := [(0, 2, .bipush 8, 8, 0, 0, []), (2, 1, .iload_n 1, 0, 1, 0, []), (3, 1, .imul, 0, 0, 0, []), (4, 2, .istore 4, 0, 4, 0, []), (6, 0, .nop, 0, 0, 0, [(6,[true,true,true,true,true])])]
def bX6_hasMark_6 : List AOp := [(6, 2, .iload 4, 0, 4, 0, []), (8, 2, .bipush 8, 8, 0, 0, []), (10, 1, .iload_n 1, 0, 1, 0, []), (11, 1, .imul, 0, 0, 0, []), (12, 1, .aload_n 0, 0, 0, 0, []), (13, 3, .getfield 45, 0, 6, 16, []), (16, 1, .iload_n 1, 0, 1, 0, []), (17, 1, .iaload, 0, 0, 0, []), (18, 1, .iadd, 0, 0, 0, []), (19, 3, .if_icmp .ge 33, 0, 0, 0, [(52,[false,false,false,false,false]), (22,[true,true,true,true,true])])]
def bX6_hasMark_22 : List AOp := [(22, 1, .aload_n 0, 0, 0, 0, []), (23, 3, .getfield 48, 0, 6, 17, []), (26, 2, .iload 4, 0, 4, 0, []), (28, 1, .iaload, 0, 0, 0, []), (29, 1, .iload_n 2, 0, 2, 0, []), (30, 3, .if_icmp .ne 16, 0, 0, 0, [(46,[true,true,true,true,true]), (33,[true,true,true,true,true])])]
def bX6_hasMark_33 : List AOp := [(33, 1, .aload_n 0, 0, 0, 0, []), (34, 3, .getfield 51, 0, 6, 18, []), (37, 2, .iload 4, 0, 4, 0, []), (39, 1, .iaload, 0, 0, 0, []), (40, 1, .iload_n 3, 0, 3, 0, []), (41, 3, .if_icmp .ne 5, 0, 0, 0, [(46,[true,true,true,true,true]), (44,[false,false,false,false,false])])]
def bX6_hasMark_44 : List AOp := [(44, 1, .iconst 1, 1, 0, 0, []), (45, 1, .ireturn, 0, 0, 0, [])]
def bX6_hasMark_46 : List AOp := [(46, 3, .iinc 4 1, 1, 4, 0, []), (49, 3, .goto (-43), 0, 0, 0, [(6,[true,true,true,true,true])])]
def bX6_hasMark_52 : List AOp := [(52, 1, .iconst 0, 0, 0, 0, []), (53, 1, .ireturn, 0, 0, 0, [])]
def blX6_hasMark : List (Nat × List AOp) := [(0, bX6_hasMark_0), (6, bX6_hasMark_6), (22, bX6_hasMark_22), (33, bX6_hasMark_33), (44, bX6_hasMark_44), (46, bX6_hasMark_46), (52, bX6_hasMark_52)]
def bX6_mark_0 : List AOp := [(0, 1, .aload_n 0, 0, 0, 0, []), (1, 1, .iload_n 1, 0, 1, 0, []), (2, 3, .invokevirtual 115, 0, 65, 2, [(6,[])]), (5, 3, .ifCond .eq 49, 0, 0, 0, [(54,[false,false,false,false]), (8,[true,true,true,true])])]
def bX6_mark_8 : List AOp := [(8, 1, .iload_n 3, 0, 3, 0, []), (9, 1, .iconst 0, 0, 0, 0, []), (10, 1, .aload_n 0, 0, 0, 0, []), (11, 1, .iload_n 2, 0, 2, 0, []), (12, 3, .invokevirtual 119, 0, 72, 2, [(6,[])]), (15, 1, .iconst 1, 1, 0, 0, []), (16, 1, .isub, 0, 0, 0, []), (17, 3, .invokestatic 91, 0, 62, 3, []), (20, 3, .ifCond .eq 34, 0, 0, 0, [(54,[false,false,false,false]), (23,[true,true,true,true])])]
def bX6_mark_23 : List AOp := [(23, 1, .iload_n 2, 0, 2, 0, []), (24, 1, .iconst 4, 4, 0, 0, []), (25, 3, .if_icmp .ne 8, 0, 0, 0, [(33,[true,true,true,true]), (28,[true,true,true,true])])]
def bX6_mark_28 : List AOp := [(28, 1, .iload_n 3, 0, 3, 0, []), (29, 1, .iload_n 1, 0, 1, 0, []), (30, 3, .if_icmp .eq 24, 0, 0, 0, [(54,[false,false,false,false]), (33,[true,true,true,true])])]
def bX6_mark_33 : List AOp := [(33, 1, .aload_n 0, 0, 0, 0, []), (34, 3, .getfield 45, 0, 6, 16, []), (37, 1, .iload_n 1, 0, 1, 0, []), (38, 1, .iaload, 0, 0, 0, []), (39, 2, .bipush 8, 8, 0, 0, []), (41, 3, .if_icmp .eq 13, 0, 0, 0, [(54,[false,false,false,false]), (44,[true,true,true,true])])]
def bX6_mark_44 : List AOp := [(44, 1, .aload_n 0, 0, 0, 0, []), (45, 1, .iload_n 1, 0, 1, 0, []), (46, 1, .iload_n 2, 0, 2, 0, []), (47, 1, .iload_n 3, 0, 3, 0, []), (48, 3, .invokevirtual 123, 0, 73, 4, [(6,[])]), (51, 3, .ifCond .eq 5, 0, 0, 0, [(56,[true,true,true,true]), (54,[false,false,false,false])])]
def bX6_mark_54 : List AOp := [(54, 1, .iconst 0, 0, 0, 0, []), (55, 1, .ireturn, 0, 0, 0, [])]
def bX6_mark_56 : List AOp := [(56, 1, .aload_n 0, 0, 0, 0, []), (57, 3, .getfield 48, 0, 6, 17, []), (60, 2, .bipush 8, 8, 0, 0, []), (62, 1, .iload_n 1, 0, 1, 0, []), (63, 1, .imul, 0, 0, 0, []), (64, 1, .aload_n 0, 0, 0, 0, []), (65, 3, .getfield 45, 0, 6, 16, []), (68, 1, .iload_n 1, 0, 1, 0, []), (69, 1, .iaload, 0, 0, 0, []), (70, 1, .iadd, 0, 0, 0, []), (71, 1, .iload_n 2, 0, 2, 0, []), (72, 1, .iastore, 0, 0, 0, []), (73, 1, .aload_n 0, 0, 0, 0, []), (74, 3, .getfield 51, 0, 6, 18, []), (77, 2, .bipush 8, 8, 0, 0, []), (79, 1, .iload_n 1, 0, 1, 0, []), (80, 1, .imul, 0, 0, 0, []), (81, 1, .aload_n 0, 0, 0, 0, []), (82, 3, .getfield 45, 0, 6, 16, []), (85, 1, .iload_n 1, 0, 1, 0, []), (86, 1, .iaload, 0, 0, 0, []), (87, 1, .iadd, 0, 0, 0, []), (88, 1, .iload_n 3, 0, 3, 0, []), (89, 1, .iastore, 0, 0, 0, []), (90, 1, .aload_n 0, 0, 0, 0, []), (91, 3, .getfield 45, 0, 6, 16, []), (94, 1, .iload_n 1, 0, 1, 0, []), (95, 1, .dup2, 0, 0, 0, []), (96, 1, .iaload, 0, 0, 0, []), (97, 1, .iconst 1, 1, 0, 0, []), (98, 1, .iadd, 0, 0, 0, []), (99, 1, .iastore, 0, 0, 0, []), (100, 1, .aload_n 0, 0, 0, 0, []), (101, 1, .iconst 0, 0, 0, 0, []), (102, 3, .putfield 105, 1, 6, 30, []), (105, 1, .iconst 1, 1, 0, 0, []), (106, 1, .ireturn, 0, 0, 0, [])]
def blX6_mark : List (Nat × List AOp) := [(0, bX6_mark_0), (8, bX6_mark_8), (23, bX6_mark_23), (28, bX6_mark_28), (33, bX6_mark_33), (44, bX6_mark_44), (54, bX6_mark_54), (56, bX6_mark_56)]
def bX6_narrows_0 : List AOp := [(0, 1, .aload_n 0, 0, 0, 0, []), (1, 3, .getfield 69, 0, 6, 24, []), (4, 1, .iload_n 1, 0, 1, 0, []), (5, 1, .iload_n 2, 0, 2, 0, []), (6, 1, .aload_n 0, 0, 0, 0, []), (7, 3, .getfield 69, 0, 6, 24, []), (10, 1, .iload_n 1, 0, 1, 0, []), (11, 1, .iaload, 0, 0, 0, []), (12, 3, .if_icmp .le 7, 0, 0, 0, [(19,[true,true,false,true]), (15,[true,true,true,true])])]
def bX6_narrows_15 : List AOp := [(15, 1, .iload_n 2, 0, 2, 0, []), (16, 3, .goto 9, 0, 0, 0, [(25,[true,true,false,true])])]
def bX6_narrows_19 : List AOp := [(19, 1, .aload_n 0, 0, 0, 0, []), (20, 3, .getfield 69, 0, 6, 24, []), (23, 1, .iload_n 1, 0, 1, 0, []), (24, 1, .iaload, 0, 0, 0, []), (25, 0, .nop, 0, 0, 0, [(25,[true,true,false,true])])]
def bX6_narrows_25 : List AOp := [(25, 1, .iastore, 0, 0, 0, []), (26, 1, .aload_n 0, 0, 0, 0, []), (27, 3, .getfield 72, 0, 6, 25, []), (30, 1, .iload_n 1, 0, 1, 0, []), (31, 1, .iload_n 3, 0, 3, 0, []), (32, 1, .aload_n 0, 0, 0, 0, []), (33, 3, .getfield 72, 0, 6, 25, []), (36, 1, .iload_n 1, 0, 1, 0, []), (37, 1, .iaload, 0, 0, 0, []), (38, 3, .if_icmp .ge 7, 0, 0, 0, [(45,[true,true,false,false]), (41,[false,false,false,true])])]
def bX6_narrows_41 : List AOp := [(41, 1, .iload_n 3, 0, 3, 0, []), (42, 3, .goto 9, 0, 0, 0, [(51,[false,false,false,false])])]
def bX6_narrows_45 : List AOp := [(45, 1, .aload_n 0, 0, 0, 0, []), (46, 3, .getfield 72, 0, 6, 25, []), (49, 1, .iload_n 1, 0, 1, 0, []), (50, 1, .iaload, 0, 0, 0, []), (51, 0, .nop, 0, 0, 0, [(51,[false,false,false,false])])]
def bX6_narrows_51 : List AOp := [(51, 1, .iastore, 0, 0, 0, []), (52, 1, .return_, 0, 0, 0, [])]
def blX6_narrows : List (Nat × List AOp) := [(0, bX6_narrows_0), (15, bX6_narrows_15), (19, bX6_narrows_19), (25, bX6_narrows_25), (41, bX6_narrows_41), (45, bX6_narrows_45), (51, bX6_narrows_51)]
def bX6_owns_0 : List AOp := [(0, 1, .iconst 0, 0, 0, 0, []), (1, 1, .istore_n 1, 0, 1, 0, []), (2, 0, .nop, 0, 0, 0, [(2,[true,true,false,false,false])])]
def bX6_owns_2 : List AOp := [(2, 1, .iload_n 1, 0, 1, 0, []), (3, 1, .aload_n 0, 0, 0, 0, []), (4, 3, .getfield 95, 0, 6, 6, []), (7, 3, .if_icmp .ge 242, 0, 0, 0, [(249,[false,false,false,false,false]), (10,[true,true,false,false,false])])]
def bX6_owns_10 : List AOp := [(10, 1, .aload_n 0, 0, 0, 0, []), (11, 3, .getfield 69, 0, 6, 24, []), (14, 1, .iload_n 1, 0, 1, 0, []), (15, 1, .aload_n 0, 0, 0, 0, []), (16, 3, .getfield 36, 0, 6, 13, []), (19, 1, .iload_n 1, 0, 1, 0, []), (20, 1, .iaload, 0, 0, 0, []), (21, 1, .iastore, 0, 0, 0, []), (22, 1, .aload_n 0, 0, 0, 0, []), (23, 3, .getfield 72, 0, 6, 25, []), (26, 1, .iload_n 1, 0, 1, 0, []), (27, 1, .aload_n 0, 0, 0, 0, []), (28, 3, .getfield 39, 0, 6, 14, []), (31, 1, .iload_n 1, 0, 1, 0, []), (32, 1, .iaload, 0, 0, 0, []), (33, 1, .iastore, 0, 0, 0, []), (34, 2, .bipush 8, 8, 0, 0, []), (36, 1, .iload_n 1, 0, 1, 0, []), (37, 1, .imul, 0, 0, 0, []), (38, 1, .istore_n 2, 0, 2, 0, []), (39, 0, .nop, 0, 0, 0, [(39,[true,true,true,false,false])])]
def bX6_owns_39 : List AOp := [(39, 1, .iload_n 2, 0, 2, 0, []), (40, 2, .bipush 8, 8, 0, 0, []), (42, 1, .iload_n 1, 0, 1, 0, []), (43, 1, .imul, 0, 0, 0, []), (44, 1, .aload_n 0, 0, 0, 0, []), (45, 3, .getfield 45, 0, 6, 16, []), (48, 1, .iload_n 1, 0, 1, 0, []), (49, 1, .iaload, 0, 0, 0, []), (50, 1, .iadd, 0, 0, 0, []), (51, 3, .if_icmp .ge 96, 0, 0, 0, [(147,[true,true,false,false,false]), (54,[true,true,true,false,false])])]
def bX6_owns_54 : List AOp := [(54, 1, .aload_n 0, 0, 0, 0, []), (55, 3, .getfield 51, 0, 6, 18, []), (58, 1, .iload_n 2, 0, 2, 0, []), (59, 1, .iaload, 0, 0, 0, []), (60, 1, .istore_n 3, 0, 3, 0, []), (61, 1, .aload_n 0, 0, 0, 0, []), (62, 3, .getfield 48, 0, 6, 17, []), (65, 1, .iload_n 2, 0, 2, 0, []), (66, 1, .iaload, 0, 0, 0, []), (67, 3, .ifCond .ne 20, 0, 0, 0, [(87,[true,true,true,true,false]), (70,[true,true,true,true,false])])]
def bX6_owns_70 : List AOp := [(70, 1, .aload_n 0, 0, 0, 0, []), (71, 1, .iload_n 1, 0, 1, 0, []), (72, 1, .aload_n 0, 0, 0, 0, []), (73, 3, .getfield 17, 0, 6, 7, []), (76, 1, .iload_n 3, 0, 3, 0, []), (77, 1, .iaload, 0, 0, 0, []), (78, 1, .aload_n 0, 0, 0, 0, []), (79, 3, .getfield 21, 0, 6, 8, []), (82, 1, .iload_n 3, 0, 3, 0, []), (83, 1, .iaload, 0, 0, 0, []), (84, 3, .invokevirtual 126, 0, 75, 4, [(6,[])]), (87, 0, .nop, 0, 0, 0, [(87,[true,true,true,true,false])])]
def bX6_owns_87 : List AOp := [(87, 1, .aload_n 0, 0, 0, 0, []), (88, 3, .getfield 48, 0, 6, 17, []), (91, 1, .iload_n 2, 0, 2, 0, []), (92, 1, .iaload, 0, 0, 0, []), (93, 1, .iconst 1, 1, 0, 0, []), (94, 3, .if_icmp .ne 20, 0, 0, 0, [(114,[true,true,true,true,false]), (97,[true,true,true,true,false])])]
def bX6_owns_97 : List AOp := [(97, 1, .aload_n 0, 0, 0, 0, []), (98, 1, .iload_n 1, 0, 1, 0, []), (99, 1, .aload_n 0, 0, 0, 0, []), (100, 3, .getfield 24, 0, 6, 9, []), (103, 1, .iload_n 3, 0, 3, 0, []), (104, 1, .iaload, 0, 0, 0, []), (105, 1, .aload_n 0, 0, 0, 0, []), (106, 3, .getfield 27, 0, 6, 10, []), (109, 1, .iload_n 3, 0, 3, 0, []), (110, 1, .iaload, 0, 0, 0, []), (111, 3, .invokevirtual 126, 0, 75, 4, [(6,[])]), (114, 0, .nop, 0, 0, 0, [(114,[true,true,true,true,false])])]
def bX6_owns_114 : List AOp := [(114, 1, .aload_n 0, 0, 0, 0, []), (115, 3, .getfield 48, 0, 6, 17, []), (118, 1, .iload_n 2, 0, 2, 0, []), (119, 1, .iaload, 0, 0, 0, []), (120, 1, .iconst 2, 2, 0, 0, []), (121, 3, .if_icmp .ne 20, 0, 0, 0, [(141,[true,true,true,false,false]), (124,[true,true,true,true,false])])]
def bX6_owns_124 : List AOp := [(124, 1, .aload_n 0, 0, 0, 0, []), (125, 1, .iload_n 1, 0, 1, 0, []), (126, 1, .aload_n 0, 0, 0, 0, []), (127, 3, .getfield 30, 0, 6, 11, []), (130, 1, .iload_n 3, 0, 3, 0, []), (131, 1, .iaload, 0, 0, 0, []), (132, 1, .aload_n 0, 0, 0, 0, []), (133, 3, .getfield 33, 0, 6, 12, []), (136, 1, .iload_n 3, 0, 3, 0, []), (137, 1, .iaload, 0, 0, 0, []), (138, 3, .invokevirtual 126, 0, 75, 4, [(6,[])]), (141, 0, .nop, 0, 0, 0, [(141,[true,true,true,false,false])])]
def bX6_owns_141 : List AOp := [(141, 3, .iinc 2 1, 1, 2, 0, []), (144, 3, .goto (-105), 0, 0, 0, [(39,[true,true,true,false,false])])]
def bX6_owns_147 : List AOp := [(147, 1, .iconst 0, 0, 0, 0, []), (148, 1, .istore_n 2, 0, 2, 0, []), (149, 0, .nop, 0, 0, 0, [(149,[true,true,true,false,false])])]
def bX6_owns_149 : List AOp := [(149, 1, .iload_n 2, 0, 2, 0, []), (150, 1, .aload_n 0, 0, 0, 0, []), (151, 3, .getfield 95, 0, 6, 6, []), (154, 3, .if_icmp .ge 89, 0, 0, 0, [(243,[true,true,false,false,false]), (157,[true,true,true,false,false])])]
def bX6_owns_157 : List AOp := [(157, 1, .iconst 0, 0, 0, 0, []), (158, 1, .istore_n 3, 0, 3, 0, []), (159, 1, .iconst 0, 0, 0, 0, []), (160, 2, .istore 4, 0, 4, 0, []), (162, 0, .nop, 0, 0, 0, [(162,[true,true,true,true,true])])]
def bX6_owns_162 : List AOp := [(162, 2, .iload 4, 0, 4, 0, []), (164, 2, .bipush 8, 8, 0, 0, []), (166, 3, .if_icmp .ge 41, 0, 0, 0, [(207,[true,true,true,true,false]), (169,[true,true,true,true,true])])]
def bX6_owns_169 : List AOp := [(169, 1, .iload_n 3, 0, 3, 0, []), (170, 3, .ifCond .ne 25, 0, 0, 0, [(195,[true,true,true,false,true]), (173,[true,true,true,false,true])])]
def bX6_owns_173 : List AOp := [(173, 1, .aload_n 0, 0, 0, 0, []), (174, 1, .iload_n 1, 0, 1, 0, []), (175, 1, .iconst 3, 3, 0, 0, []), (176, 2, .iload 4, 0, 4, 0, []), (178, 3, .invokevirtual 123, 0, 73, 4, [(6,[])]), (181, 3, .ifCond .eq 18, 0, 0, 0, [(199,[true,true,true,false,true]), (184,[true,true,true,false,true])])]
def bX6_owns_184 : List AOp := [(184, 1, .aload_n 0, 0, 0, 0, []), (185, 1, .iload_n 2, 0, 2, 0, []), (186, 1, .iconst 3, 3, 0, 0, []), (187, 2, .iload 4, 0, 4, 0, []), (189, 3, .invokevirtual 123, 0, 73, 4, [(6,[])]), (192, 3, .ifCond .eq 7, 0, 0, 0, [(199,[true,true,true,false,true]), (195,[true,true,true,false,true])])]
def bX6_owns_195 : List AOp := [(195, 1, .iconst 1, 1, 0, 0, []), (196, 3, .goto 4, 0, 0, 0, [(200,[true,true,true,false,true])])]
def bX6_owns_199 : List AOp := [(199, 1, .iconst 0, 0, 0, 0, []), (200, 0, .nop, 0, 0, 0, [(200,[true,true,true,false,true])])]
def bX6_owns_200 : List AOp := [(200, 1, .istore_n 3, 0, 3, 0, []), (201, 3, .iinc 4 1, 1, 4, 0, []), (204, 3, .goto (-42), 0, 0, 0, [(162,[true,true,true,true,true])])]
def bX6_owns_207 : List AOp := [(207, 1, .aload_n 0, 0, 0, 0, []), (208, 3, .getfield 75, 0, 6, 26, []), (211, 2, .bipush 12, 12, 0, 0, []), (213, 1, .iload_n 1, 0, 1, 0, []), (214, 1, .imul, 0, 0, 0, []), (215, 1, .iload_n 2, 0, 2, 0, []), (216, 1, .iadd, 0, 0, 0, []), (217, 1, .iload_n 3, 0, 3, 0, []), (218, 1, .bastore, 0, 0, 0, []), (219, 1, .aload_n 0, 0, 0, 0, []), (220, 3, .getfield 79, 0, 6, 27, []), (223, 2, .bipush 12, 12, 0, 0, []), (225, 1, .iload_n 1, 0, 1, 0, []), (226, 1, .imul, 0, 0, 0, []), (227, 1, .iload_n 2, 0, 2, 0, []), (228, 1, .iadd, 0, 0, 0, []), (229, 1, .aload_n 0, 0, 0, 0, []), (230, 1, .iload_n 1, 0, 1, 0, []), (231, 1, .iconst 4, 4, 0, 0, []), (232, 1, .iload_n 2, 0, 2, 0, []), (233, 3, .invokevirtual 123, 0, 73, 4, [(6,[])]), (236, 1, .bastore, 0, 0, 0, []), (237, 3, .iinc 2 1, 1, 2, 0, []), (240, 3, .goto (-91), 0, 0, 0, [(149,[true,true,true,false,false])])]
def bX6_owns_243 : List AOp := [(243, 3, .iinc 1 1, 1, 1, 0, []), (246, 3, .goto (-244), 0, 0, 0, [(2,[true,true,false,false,false])])]
def bX6_owns_249 : List AOp := [(249, 1, .return_, 0, 0, 0, [])]
def blX6_owns : List (Nat × List AOp) := [(0, bX6_owns_0), (2, bX6_owns_2), (10, bX6_owns_10), (39, bX6_owns_39), (54, bX6_owns_54), (70, bX6_owns_70), (87, bX6_owns_87), (97, bX6_owns_97), (114, bX6_owns_114), (124, bX6_owns_124), (141, bX6_owns_141), (147, bX6_owns_147), (149, bX6_owns_149), (157, bX6_owns_157), (162, bX6_owns_162), (169, bX6_owns_169), (173, bX6_owns_173), (184, bX6_owns_184), (195, bX6_owns_195), (199, bX6_owns_199), (200, bX6_owns_200), (207, bX6_owns_207), (243, bX6_owns_243), (249, bX6_owns_249)]
def bX6_ups_0 : List AOp := [(0, 1, .iconst 0, 0, 0, 0, []), (1, 1, .istore_n 2, 0, 2, 0, []), (2, 0, .nop, 0, 0, 0, [(2,[true,true,true,false,false,false])])]
def bX6_ups_2 : List AOp := [(2, 1, .iload_n 2, 0, 2, 0, []), (3, 1, .aload_n 0, 0, 0, 0, []), (4, 3, .getfield 95, 0, 6, 6, []), (7, 3, .if_icmp .ge 21, 0, 0, 0, [(28,[true,true,false,false,false,false]), (10,[true,true,true,false,false,false])])]
def bX6_ups_10 : List AOp := [(10, 1, .aload_n 0, 0, 0, 0, []), (11, 3, .getfield 82, 0, 6, 28, []), (14, 1, .iload_n 2, 0, 2, 0, []), (15, 1, .aload_n 0, 0, 0, 0, []), (16, 3, .getfield 69, 0, 6, 24, []), (19, 1, .iload_n 2, 0, 2, 0, []), (20, 1, .iaload, 0, 0, 0, []), (21, 1, .iastore, 0, 0, 0, []), (22, 3, .iinc 2 1, 1, 2, 0, []), (25, 3, .goto (-23), 0, 0, 0, [(2,[true,true,true,false,false,false])])]
def bX6_ups_28 : List AOp := [(28, 1, .iconst 1, 1, 0, 0, []), (29, 1, .istore_n 2, 0, 2, 0, []), (30, 0, .nop, 0, 0, 0, [(30,[true,true,true,false,false,false])])]
def bX6_ups_30 : List AOp := [(30, 1, .iload_n 2, 0, 2, 0, []), (31, 3, .ifCond .eq 155, 0, 0, 0, [(186,[false,false,false,false,false,false]), (34,[true,true,false,false,false,false])])]
def bX6_ups_34 : List AOp := [(34, 1, .iconst 0, 0, 0, 0, []), (35, 1, .istore_n 2, 0, 2, 0, []), (36, 1, .iconst 0, 0, 0, 0, []), (37, 1, .istore_n 3, 0, 3, 0, []), (38, 0, .nop, 0, 0, 0, [(38,[true,true,true,true,false,false])])]
def bX6_ups_38 : List AOp := [(38, 1, .iload_n 3, 0, 3, 0, []), (39, 1, .aload_n 0, 0, 0, 0, []), (40, 3, .getfield 95, 0, 6, 6, []), (43, 3, .if_icmp .ge 140, 0, 0, 0, [(183,[true,true,true,false,false,false]), (46,[true,true,true,true,false,false])])]
def bX6_ups_46 : List AOp := [(46, 1, .iconst 0, 0, 0, 0, []), (47, 2, .istore 4, 0, 4, 0, []), (49, 0, .nop, 0, 0, 0, [(49,[true,true,true,true,true,false])])]
def bX6_ups_49 : List AOp := [(49, 2, .iload 4, 0, 4, 0, []), (51, 1, .aload_n 0, 0, 0, 0, []), (52, 3, .getfield 95, 0, 6, 6, []), (55, 3, .if_icmp .ge 122, 0, 0, 0, [(177,[true,true,true,true,false,false]), (58,[true,true,true,true,true,false])])]
def bX6_ups_58 : List AOp := [(58, 1, .iload_n 3, 0, 3, 0, []), (59, 2, .iload 4, 0, 4, 0, []), (61, 3, .if_icmp .eq 110, 0, 0, 0, [(171,[true,true,true,true,true,false]), (64,[true,true,true,true,true,false])])]
def bX6_ups_64 : List AOp := [(64, 1, .iload_n 1, 0, 1, 0, []), (65, 1, .iload_n 3, 0, 3, 0, []), (66, 3, .invokestatic 130, 0, 64, 2, []), (69, 3, .ifCond .eq 102, 0, 0, 0, [(171,[true,true,true,true,true,false]), (72,[true,true,true,true,true,false])])]
def bX6_ups_72 : List AOp := [(72, 1, .iload_n 1, 0, 1, 0, []), (73, 2, .iload 4, 0, 4, 0, []), (75, 3, .invokestatic 130, 0, 64, 2, []), (78, 3, .ifCond .ne 6, 0, 0, 0, [(84,[true,true,true,true,true,false]), (81,[true,true,true,true,true,false])])]
def bX6_ups_81 : List AOp := [(81, 3, .goto 90, 0, 0, 0, [(171,[true,true,true,true,true,false])])]
def bX6_ups_84 : List AOp := [(84, 1, .aload_n 0, 0, 0, 0, []), (85, 3, .getfield 79, 0, 6, 27, []), (88, 2, .bipush 12, 12, 0, 0, []), (90, 1, .iload_n 3, 0, 3, 0, []), (91, 1, .imul, 0, 0, 0, []), (92, 2, .iload 4, 0, 4, 0, []), (94, 1, .iadd, 0, 0, 0, []), (95, 1, .baload, 0, 0, 0, []), (96, 3, .ifCond .eq 13, 0, 0, 0, [(109,[true,true,true,true,true,false]), (99,[true,true,true,true,true,false])])]
def bX6_ups_99 : List AOp := [(99, 1, .aload_n 0, 0, 0, 0, []), (100, 3, .getfield 82, 0, 6, 28, []), (103, 2, .iload 4, 0, 4, 0, []), (105, 1, .iaload, 0, 0, 0, []), (106, 3, .goto 39, 0, 0, 0, [(145,[true,true,true,true,true,false])])]
def bX6_ups_109 : List AOp := [(109, 1, .aload_n 0, 0, 0, 0, []), (110, 3, .getfield 75, 0, 6, 26, []), (113, 2, .bipush 12, 12, 0, 0, []), (115, 1, .iload_n 3, 0, 3, 0, []), (116, 1, .imul, 0, 0, 0, []), (117, 2, .iload 4, 0, 4, 0, []), (119, 1, .iadd, 0, 0, 0, []), (120, 1, .baload, 0, 0, 0, []), (121, 3, .ifCond .eq 18, 0, 0, 0, [(139,[true,true,true,true,true,false]), (124,[true,true,true,true,true,false])])]
def bX6_ups_124 : List AOp := [(124, 1, .aload_n 0, 0, 0, 0, []), (125, 3, .getfield 82, 0, 6, 28, []), (128, 2, .iload 4, 0, 4, 0, []), (130, 1, .iaload, 0, 0, 0, []), (131, 1, .aload_n 0, 0, 0, 0, []), (132, 3, .getfield 13, 0, 6, 2, []), (135, 1, .isub, 0, 0, 0, []), (136, 3, .goto 9, 0, 0, 0, [(145,[true,true,true,true,true,false])])]
def bX6_ups_139 : List AOp := [(139, 1, .aload_n 0, 0, 0, 0, []), (140, 3, .getfield 82, 0, 6, 28, []), (143, 1, .iload_n 3, 0, 3, 0, []), (144, 1, .iaload, 0, 0, 0, []), (145, 0, .nop, 0, 0, 0, [(145,[true,true,true,true,true,false])])]
def bX6_ups_145 : List AOp := [(145, 2, .istore 5, 0, 5, 0, []), (147, 2, .iload 5, 0, 5, 0, []), (149, 1, .aload_n 0, 0, 0, 0, []), (150, 3, .getfield 82, 0, 6, 28, []), (153, 1, .iload_n 3, 0, 3, 0, []), (154, 1, .iaload, 0, 0, 0, []), (155, 3, .if_icmp .gt 6, 0, 0, 0, [(161,[true,true,false,true,true,true]), (158,[true,true,true,true,true,false])])]
def bX6_ups_158 : List AOp := [(158, 3, .goto 13, 0, 0, 0, [(171,[true,true,true,true,true,false])])]
def bX6_ups_161 : List AOp := [(161, 1, .aload_n 0, 0, 0, 0, []), (162, 3, .getfield 82, 0, 6, 28, []), (165, 1, .iload_n 3, 0, 3, 0, []), (166, 2, .iload 5, 0, 5, 0, []), (168, 1, .iastore, 0, 0, 0, []), (169, 1, .iconst 1, 1, 0, 0, []), (170, 1, .istore_n 2, 0, 2, 0, []), (171, 0, .nop, 0, 0, 0, [(171,[true,true,true,true,true,false])])]
def bX6_ups_171 : List AOp := [(171, 3, .iinc 4 1, 1, 4, 0, []), (174, 3, .goto (-125), 0, 0, 0, [(49,[true,true,true,true,true,false])])]
def bX6_ups_177 : List AOp := [(177, 3, .iinc 3 1, 1, 3, 0, []), (180, 3, .goto (-142), 0, 0, 0, [(38,[true,true,true,true,false,false])])]
def bX6_ups_183 : List AOp := [(183, 3, .goto (-153), 0, 0, 0, [(30,[true,true,true,false,false,false])])]
def bX6_ups_186 : List AOp := [(186, 1, .return_, 0, 0, 0, [])]
def blX6_ups : List (Nat × List AOp) := [(0, bX6_ups_0), (2, bX6_ups_2), (10, bX6_ups_10), (28, bX6_ups_28), (30, bX6_ups_30), (34, bX6_ups_34), (38, bX6_ups_38), (46, bX6_ups_46), (49, bX6_ups_49), (58, bX6_ups_58), (64, bX6_ups_64), (72, bX6_ups_72), (81, bX6_ups_81), (84, bX6_ups_84), (99, bX6_ups_99), (109, bX6_ups_109), (124, bX6_ups_124), (139, bX6_ups_139), (145, bX6_ups_145), (158, bX6_ups_158), (161, bX6_ups_161), (171, bX6_ups_171), (177, bX6_ups_177), (183, bX6_ups_183), (186, bX6_ups_186)]
def bX6_downs_0 : List AOp := [(0, 1, .iconst 0, 0, 0, 0, []), (1, 1, .istore_n 2, 0, 2, 0, []), (2, 0, .nop, 0, 0, 0, [(2,[true,true,true,false,false,false])])]
def bX6_downs_2 : List AOp := [(2, 1, .iload_n 2, 0, 2, 0, []), (3, 1, .aload_n 0, 0, 0, 0, []), (4, 3, .getfield 95, 0, 6, 6, []), (7, 3, .if_icmp .ge 21, 0, 0, 0, [(28,[true,true,false,false,false,false]), (10,[true,true,true,false,false,false])])]
def bX6_downs_10 : List AOp := [(10, 1, .aload_n 0, 0, 0, 0, []), (11, 3, .getfield 85, 0, 6, 29, []), (14, 1, .iload_n 2, 0, 2, 0, []), (15, 1, .aload_n 0, 0, 0, 0, []), (16, 3, .getfield 72, 0, 6, 25, []), (19, 1, .iload_n 2, 0, 2, 0, []), (20, 1, .iaload, 0, 0, 0, []), (21, 1, .iastore, 0, 0, 0, []), (22, 3, .iinc 2 1, 1, 2, 0, []), (25, 3, .goto (-23), 0, 0, 0, [(2,[true,true,true,false,false,false])])]
def bX6_downs_28 : List AOp := [(28, 1, .iconst 1, 1, 0, 0, []), (29, 1, .istore_n 2, 0, 2, 0, []), (30, 0, .nop, 0, 0, 0, [(30,[true,true,true,false,false,false])])]
def bX6_downs_30 : List AOp := [(30, 1, .iload_n 2, 0, 2, 0, []), (31, 3, .ifCond .eq 155, 0, 0, 0, [(186,[false,false,false,false,false,false]), (34,[true,true,false,false,false,false])])]
def bX6_downs_34 : List AOp := [(34, 1, .iconst 0, 0, 0, 0, []), (35, 1, .istore_n 2, 0, 2, 0, []), (36, 1, .iconst 0, 0, 0, 0, []), (37, 1, .istore_n 3, 0, 3, 0, []), (38, 0, .nop, 0, 0, 0, [(38,[true,true,true,true,false,false])])]
def bX6_downs_38 : List AOp := [(38, 1, .iload_n 3, 0, 3, 0, []), (39, 1, .aload_n 0, 0, 0, 0, []), (40, 3, .getfield 95, 0, 6, 6, []), (43, 3, .if_icmp .ge 140, 0, 0, 0, [(183,[true,true,true,false,false,false]), (46,[true,true,true,true,false,false])])]
def bX6_downs_46 : List AOp := [(46, 1, .iconst 0, 0, 0, 0, []), (47, 2, .istore 4, 0, 4, 0, []), (49, 0, .nop, 0, 0, 0, [(49,[true,true,true,true,true,false])])]
def bX6_downs_49 : List AOp := [(49, 2, .iload 4, 0, 4, 0, []), (51, 1, .aload_n 0, 0, 0, 0, []), (52, 3, .getfield 95, 0, 6, 6, []), (55, 3, .if_icmp .ge 122, 0, 0, 0, [(177,[true,true,true,true,false,false]), (58,[true,true,true,true,true,false])])]
def bX6_downs_58 : List AOp := [(58, 1, .iload_n 3, 0, 3, 0, []), (59, 2, .iload 4, 0, 4, 0, []), (61, 3, .if_icmp .eq 110, 0, 0, 0, [(171,[true,true,true,true,true,false]), (64,[true,true,true,true,true,false])])]
def bX6_downs_64 : List AOp := [(64, 1, .iload_n 1, 0, 1, 0, []), (65, 1, .iload_n 3, 0, 3, 0, []), (66, 3, .invokestatic 130, 0, 64, 2, []), (69, 3, .ifCond .eq 102, 0, 0, 0, [(171,[true,true,true,true,true,false]), (72,[true,true,true,true,true,false])])]
def bX6_downs_72 : List AOp := [(72, 1, .iload_n 1, 0, 1, 0, []), (73, 2, .iload 4, 0, 4, 0, []), (75, 3, .invokestatic 130, 0, 64, 2, []), (78, 3, .ifCond .ne 6, 0, 0, 0, [(84,[true,true,true,true,true,false]), (81,[true,true,true,true,true,false])])]
def bX6_downs_81 : List AOp := [(81, 3, .goto 90, 0, 0, 0, [(171,[true,true,true,true,true,false])])]
def bX6_downs_84 : List AOp := [(84, 1, .aload_n 0, 0, 0, 0, []), (85, 3, .getfield 79, 0, 6, 27, []), (88, 2, .bipush 12, 12, 0, 0, []), (90, 2, .iload 4, 0, 4, 0, []), (92, 1, .imul, 0, 0, 0, []), (93, 1, .iload_n 3, 0, 3, 0, []), (94, 1, .iadd, 0, 0, 0, []), (95, 1, .baload, 0, 0, 0, []), (96, 3, .ifCond .eq 13, 0, 0, 0, [(109,[true,true,true,true,true,false]), (99,[true,true,true,true,true,false])])]
def bX6_downs_99 : List AOp := [(99, 1, .aload_n 0, 0, 0, 0, []), (100, 3, .getfield 85, 0, 6, 29, []), (103, 2, .iload 4, 0, 4, 0, []), (105, 1, .iaload, 0, 0, 0, []), (106, 3, .goto 39, 0, 0, 0, [(145,[true,true,true,true,true,false])])]
def bX6_downs_109 : List AOp := [(109, 1, .aload_n 0, 0, 0, 0, []), (110, 3, .getfield 75, 0, 6, 26, []), (113, 2, .bipush 12, 12, 0, 0, []), (115, 1, .iload_n 3, 0, 3, 0, []), (116, 1, .imul, 0, 0, 0, []), (117, 2, .iload 4, 0, 4, 0, []), (119, 1, .iadd, 0, 0, 0, []), (120, 1, .baload, 0, 0, 0, []), (121, 3, .ifCond .eq 18, 0, 0, 0, [(139,[true,true,true,true,true,false]), (124,[true,true,true,true,true,false])])]
def bX6_downs_124 : List AOp := [(124, 1, .aload_n 0, 0, 0, 0, []), (125, 3, .getfield 85, 0, 6, 29, []), (128, 2, .iload 4, 0, 4, 0, []), (130, 1, .iaload, 0, 0, 0, []), (131, 1, .aload_n 0, 0, 0, 0, []), (132, 3, .getfield 13, 0, 6, 2, []), (135, 1, .iadd, 0, 0, 0, []), (136, 3, .goto 9, 0, 0, 0, [(145,[true,true,true,true,true,false])])]
def bX6_downs_139 : List AOp := [(139, 1, .aload_n 0, 0, 0, 0, []), (140, 3, .getfield 85, 0, 6, 29, []), (143, 1, .iload_n 3, 0, 3, 0, []), (144, 1, .iaload, 0, 0, 0, []), (145, 0, .nop, 0, 0, 0, [(145,[true,true,true,true,true,false])])]
def bX6_downs_145 : List AOp := [(145, 2, .istore 5, 0, 5, 0, []), (147, 2, .iload 5, 0, 5, 0, []), (149, 1, .aload_n 0, 0, 0, 0, []), (150, 3, .getfield 85, 0, 6, 29, []), (153, 1, .iload_n 3, 0, 3, 0, []), (154, 1, .iaload, 0, 0, 0, []), (155, 3, .if_icmp .lt 6, 0, 0, 0, [(161,[true,true,false,true,true,true]), (158,[true,true,true,true,true,false])])]
def bX6_downs_158 : List AOp := [(158, 3, .goto 13, 0, 0, 0, [(171,[true,true,true,true,true,false])])]
def bX6_downs_161 : List AOp := [(161, 1, .aload_n 0, 0, 0, 0, []), (162, 3, .getfield 85, 0, 6, 29, []), (165, 1, .iload_n 3, 0, 3, 0, []), (166, 2, .iload 5, 0, 5, 0, []), (168, 1, .iastore, 0, 0, 0, []), (169, 1, .iconst 1, 1, 0, 0, []), (170, 1, .istore_n 2, 0, 2, 0, []), (171, 0, .nop, 0, 0, 0, [(171,[true,true,true,true,true,false])])]
def bX6_downs_171 : List AOp := [(171, 3, .iinc 4 1, 1, 4, 0, []), (174, 3, .goto (-125), 0, 0, 0, [(49,[true,true,true,true,true,false])])]
def bX6_downs_177 : List AOp := [(177, 3, .iinc 3 1, 1, 3, 0, []), (180, 3, .goto (-142), 0, 0, 0, [(38,[true,true,true,true,false,false])])]
def bX6_downs_183 : List AOp := [(183, 3, .goto (-153), 0, 0, 0, [(30,[true,true,true,false,false,false])])]
def bX6_downs_186 : List AOp := [(186, 1, .return_, 0, 0, 0, [])]
def blX6_downs : List (Nat × List AOp) := [(0, bX6_downs_0), (2, bX6_downs_2), (10, bX6_downs_10), (28, bX6_downs_28), (30, bX6_downs_30), (34, bX6_downs_34), (38, bX6_downs_38), (46, bX6_downs_46), (49, bX6_downs_49), (58, bX6_downs_58), (64, bX6_downs_64), (72, bX6_downs_72), (81, bX6_downs_81), (84, bX6_downs_84), (99, bX6_downs_99), (109, bX6_downs_109), (124, bX6_downs_124), (139, bX6_downs_139), (145, bX6_downs_145), (158, bX6_downs_158), (161, bX6_downs_161), (171, bX6_downs_171), (177, bX6_downs_177), (183, bX6_downs_183), (186, bX6_downs_186)]
def bX6_agrees_0 : List AOp := [(0, 1, .iconst 0, 0, 0, 0, []), (1, 1, .istore_n 2, 0, 2, 0, []), (2, 0, .nop, 0, 0, 0, [(2,[true,true,true])])]
def bX6_agrees_2 : List AOp := [(2, 1, .iload_n 2, 0, 2, 0, []), (3, 1, .aload_n 0, 0, 0, 0, []), (4, 3, .getfield 95, 0, 6, 6, []), (7, 3, .if_icmp .ge 34, 0, 0, 0, [(41,[true,true,false]), (10,[true,true,true])])]
def bX6_agrees_10 : List AOp := [(10, 1, .iload_n 1, 0, 1, 0, []), (11, 1, .iload_n 2, 0, 2, 0, []), (12, 3, .invokestatic 130, 0, 64, 2, []), (15, 3, .ifCond .eq 20, 0, 0, 0, [(35,[true,true,true]), (18,[true,true,true])])]
def bX6_agrees_18 : List AOp := [(18, 1, .aload_n 0, 0, 0, 0, []), (19, 3, .getfield 69, 0, 6, 24, []), (22, 1, .iload_n 2, 0, 2, 0, []), (23, 1, .iaload, 0, 0, 0, []), (24, 1, .aload_n 0, 0, 0, 0, []), (25, 3, .getfield 72, 0, 6, 25, []), (28, 1, .iload_n 2, 0, 2, 0, []), (29, 1, .iaload, 0, 0, 0, []), (30, 3, .if_icmp .le 5, 0, 0, 0, [(35,[true,true,true]), (33,[false,false,false])])]
def bX6_agrees_33 : List AOp := [(33, 1, .iconst 0, 0, 0, 0, []), (34, 1, .ireturn, 0, 0, 0, [])]
def bX6_agrees_35 : List AOp := [(35, 3, .iinc 2 1, 1, 2, 0, []), (38, 3, .goto (-36), 0, 0, 0, [(2,[true,true,true])])]
def bX6_agrees_41 : List AOp := [(41, 1, .aload_n 0, 0, 0, 0, []), (42, 1, .iload_n 1, 0, 1, 0, []), (43, 3, .invokevirtual 133, 0, 77, 2, [(6,[])]), (46, 1, .iconst 0, 0, 0, 0, []), (47, 1, .istore_n 2, 0, 2, 0, []), (48, 0, .nop, 0, 0, 0, [(48,[true,true,true])])]
def bX6_agrees_48 : List AOp := [(48, 1, .iload_n 2, 0, 2, 0, []), (49, 1, .aload_n 0, 0, 0, 0, []), (50, 3, .getfield 95, 0, 6, 6, []), (53, 3, .if_icmp .ge 34, 0, 0, 0, [(87,[false,false,false]), (56,[true,true,true])])]
def bX6_agrees_56 : List AOp := [(56, 1, .iload_n 1, 0, 1, 0, []), (57, 1, .iload_n 2, 0, 2, 0, []), (58, 3, .invokestatic 130, 0, 64, 2, []), (61, 3, .ifCond .eq 20, 0, 0, 0, [(81,[true,true,true]), (64,[true,true,true])])]
def bX6_agrees_64 : List AOp := [(64, 1, .aload_n 0, 0, 0, 0, []), (65, 3, .getfield 82, 0, 6, 28, []), (68, 1, .iload_n 2, 0, 2, 0, []), (69, 1, .iaload, 0, 0, 0, []), (70, 1, .aload_n 0, 0, 0, 0, []), (71, 3, .getfield 72, 0, 6, 25, []), (74, 1, .iload_n 2, 0, 2, 0, []), (75, 1, .iaload, 0, 0, 0, []), (76, 3, .if_icmp .le 5, 0, 0, 0, [(81,[true,true,true]), (79,[false,false,false])])]
def bX6_agrees_79 : List AOp := [(79, 1, .iconst 0, 0, 0, 0, []), (80, 1, .ireturn, 0, 0, 0, [])]
def bX6_agrees_81 : List AOp := [(81, 3, .iinc 2 1, 1, 2, 0, []), (84, 3, .goto (-36), 0, 0, 0, [(48,[true,true,true])])]
def bX6_agrees_87 : List AOp := [(87, 1, .iconst 1, 1, 0, 0, []), (88, 1, .ireturn, 0, 0, 0, [])]
def blX6_agrees : List (Nat × List AOp) := [(0, bX6_agrees_0), (2, bX6_agrees_2), (10, bX6_agrees_10), (18, bX6_agrees_18), (33, bX6_agrees_33), (35, bX6_agrees_35), (41, bX6_agrees_41), (48, bX6_agrees_48), (56, bX6_agrees_56), (64, bX6_agrees_64), (79, bX6_agrees_79), (81, bX6_agrees_81), (87, bX6_agrees_87)]
def bX6_weightOf_0 : List AOp := [(0, 1, .iconst 0, 0, 0, 0, []), (1, 1, .istore_n 2, 0, 2, 0, []), (2, 1, .iconst 0, 0, 0, 0, []), (3, 1, .istore_n 3, 0, 3, 0, []), (4, 0, .nop, 0, 0, 0, [(4,[true,true,true,true])])]
def bX6_weightOf_4 : List AOp := [(4, 1, .iload_n 3, 0, 3, 0, []), (5, 1, .aload_n 0, 0, 0, 0, []), (6, 3, .getfield 95, 0, 6, 6, []), (9, 3, .if_icmp .ge 30, 0, 0, 0, [(39,[false,false,true,false]), (12,[true,true,true,true])])]
def bX6_weightOf_12 : List AOp := [(12, 1, .iload_n 2, 0, 2, 0, []), (13, 1, .iload_n 1, 0, 1, 0, []), (14, 1, .iload_n 3, 0, 3, 0, []), (15, 3, .invokestatic 130, 0, 64, 2, []), (18, 3, .ifCond .eq 12, 0, 0, 0, [(30,[true,true,false,true]), (21,[true,true,false,true])])]
def bX6_weightOf_21 : List AOp := [(21, 1, .aload_n 0, 0, 0, 0, []), (22, 3, .getfield 42, 0, 6, 15, []), (25, 1, .iload_n 3, 0, 3, 0, []), (26, 1, .iaload, 0, 0, 0, []), (27, 3, .goto 4, 0, 0, 0, [(31,[true,true,false,true])])]
def bX6_weightOf_30 : List AOp := [(30, 1, .iconst 0, 0, 0, 0, []), (31, 0, .nop, 0, 0, 0, [(31,[true,true,false,true])])]
def bX6_weightOf_31 : List AOp := [(31, 1, .iadd, 0, 0, 0, []), (32, 1, .istore_n 2, 0, 2, 0, []), (33, 3, .iinc 3 1, 1, 3, 0, []), (36, 3, .goto (-32), 0, 0, 0, [(4,[true,true,true,true])])]
def bX6_weightOf_39 : List AOp := [(39, 1, .iload_n 2, 0, 2, 0, []), (40, 1, .ireturn, 0, 0, 0, [])]
def blX6_weightOf : List (Nat × List AOp) := [(0, bX6_weightOf_0), (4, bX6_weightOf_4), (12, bX6_weightOf_12), (21, bX6_weightOf_21), (30, bX6_weightOf_30), (31, bX6_weightOf_31), (39, bX6_weightOf_39)]
def bX6_sizeOf_0 : List AOp := [(0, 1, .iconst 0, 0, 0, 0, []), (1, 1, .istore_n 1, 0, 1, 0, []), (2, 1, .iload_n 0, 0, 0, 0, []), (3, 1, .istore_n 2, 0, 2, 0, []), (4, 0, .nop, 0, 0, 0, [(4,[false,true,true])])]
def bX6_sizeOf_4 : List AOp := [(4, 1, .iload_n 2, 0, 2, 0, []), (5, 3, .ifCond .eq 15, 0, 0, 0, [(20,[false,true,false]), (8,[false,true,true])])]
def bX6_sizeOf_8 : List AOp := [(8, 3, .iinc 1 1, 1, 1, 0, []), (11, 1, .iload_n 2, 0, 2, 0, []), (12, 1, .iload_n 2, 0, 2, 0, []), (13, 1, .iconst 1, 1, 0, 0, []), (14, 1, .isub, 0, 0, 0, []), (15, 1, .iand, 0, 0, 0, []), (16, 1, .istore_n 2, 0, 2, 0, []), (17, 3, .goto (-13), 0, 0, 0, [(4,[false,true,true])])]
def bX6_sizeOf_20 : List AOp := [(20, 1, .iload_n 1, 0, 1, 0, []), (21, 1, .ireturn, 0, 0, 0, [])]
def blX6_sizeOf : List (Nat × List AOp) := [(0, bX6_sizeOf_0), (4, bX6_sizeOf_4), (8, bX6_sizeOf_8), (20, bX6_sizeOf_20)]
def bX6_works_0 : List AOp := [(0, 1, .aload_n 0, 0, 0, 0, []), (1, 3, .getfield 105, 0, 6, 30, []), (4, 3, .ifCond .eq 4, 0, 0, 0, [(8,[true,false,false,false]), (7,[false,false,false,false])])]
def bX6_works_7 : List AOp := [(7, 1, .return_, 0, 0, 0, [])]
def bX6_works_8 : List AOp := [(8, 1, .aload_n 0, 0, 0, 0, []), (9, 1, .iconst 1, 1, 0, 0, []), (10, 3, .putfield 105, 1, 6, 30, []), (13, 1, .aload_n 0, 0, 0, 0, []), (14, 3, .invokevirtual 137, 0, 76, 1, [(6,[])]), (17, 1, .iconst 1, 1, 0, 0, []), (18, 1, .aload_n 0, 0, 0, 0, []), (19, 3, .getfield 95, 0, 6, 6, []), (22, 1, .ishl, 0, 0, 0, []), (23, 1, .iconst 1, 1, 0, 0, []), (24, 1, .isub, 0, 0, 0, []), (25, 1, .istore_n 1, 0, 1, 0, []), (26, 1, .aload_n 0, 0, 0, 0, []), (27, 1, .iconst 0, 0, 0, 0, []), (28, 3, .putfield 140, 0, 6, 33, []), (31, 1, .iconst 0, 0, 0, 0, []), (32, 1, .istore_n 2, 0, 2, 0, []), (33, 0, .nop, 0, 0, 0, [(33,[true,true,true,false])])]
def bX6_works_33 : List AOp := [(33, 1, .iload_n 2, 0, 2, 0, []), (34, 1, .iload_n 1, 0, 1, 0, []), (35, 3, .if_icmp .gt 55, 0, 0, 0, [(90,[true,true,false,false]), (38,[true,true,true,false])])]
def bX6_works_38 : List AOp := [(38, 1, .aload_n 0, 0, 0, 0, []), (39, 3, .getfield 88, 0, 6, 31, []), (42, 1, .iload_n 2, 0, 2, 0, []), (43, 1, .aload_n 0, 0, 0, 0, []), (44, 1, .iload_n 2, 0, 2, 0, []), (45, 3, .invokevirtual 143, 0, 79, 2, [(6,[])]), (48, 1, .bastore, 0, 0, 0, []), (49, 1, .aload_n 0, 0, 0, 0, []), (50, 3, .getfield 88, 0, 6, 31, []), (53, 1, .iload_n 2, 0, 2, 0, []), (54, 1, .baload, 0, 0, 0, []), (55, 3, .ifCond .ne 29, 0, 0, 0, [(84,[true,true,true,false]), (58,[true,true,true,false])])]
def bX6_works_58 : List AOp := [(58, 1, .aload_n 0, 0, 0, 0, []), (59, 3, .getfield 140, 0, 6, 33, []), (62, 3, .ifCond .eq 17, 0, 0, 0, [(79,[true,true,true,false]), (65,[true,true,true,false])])]
def bX6_works_65 : List AOp := [(65, 1, .iload_n 2, 0, 2, 0, []), (66, 3, .invokestatic 146, 0, 81, 1, []), (69, 1, .aload_n 0, 0, 0, 0, []), (70, 3, .getfield 140, 0, 6, 33, []), (73, 3, .invokestatic 146, 0, 81, 1, []), (76, 3, .if_icmp .ge 8, 0, 0, 0, [(84,[true,true,true,false]), (79,[true,true,true,false])])]
def bX6_works_79 : List AOp := [(79, 1, .aload_n 0, 0, 0, 0, []), (80, 1, .iload_n 2, 0, 2, 0, []), (81, 3, .putfield 140, 0, 6, 33, []), (84, 0, .nop, 0, 0, 0, [(84,[true,true,true,false])])]
def bX6_works_84 : List AOp := [(84, 3, .iinc 2 1, 1, 2, 0, []), (87, 3, .goto (-54), 0, 0, 0, [(33,[true,true,true,false])])]
def bX6_works_90 : List AOp := [(90, 1, .aload_n 0, 0, 0, 0, []), (91, 1, .iload_n 1, 0, 1, 0, []), (92, 3, .putfield 149, 0, 6, 32, []), (95, 1, .iload_n 1, 0, 1, 0, []), (96, 1, .istore_n 2, 0, 2, 0, []), (97, 0, .nop, 0, 0, 0, [(97,[true,true,true,false])])]
def bX6_works_97 : List AOp := [(97, 1, .iload_n 2, 0, 2, 0, []), (98, 3, .ifCond .lt 67, 0, 0, 0, [(165,[true,true,false,false]), (101,[true,true,true,false])])]
def bX6_works_101 : List AOp := [(101, 1, .aload_n 0, 0, 0, 0, []), (102, 3, .getfield 88, 0, 6, 31, []), (105, 1, .iload_n 1, 0, 1, 0, []), (106, 1, .iload_n 2, 0, 2, 0, []), (107, 1, .iconst (-1), (-1), 0, 0, []), (108, 1, .ixor, 0, 0, 0, []), (109, 1, .iand, 0, 0, 0, []), (110, 1, .baload, 0, 0, 0, []), (111, 3, .ifCond .ne 6, 0, 0, 0, [(117,[true,true,true,false]), (114,[true,true,true,false])])]
def bX6_works_114 : List AOp := [(114, 3, .goto 45, 0, 0, 0, [(159,[true,true,true,false])])]
def bX6_works_117 : List AOp := [(117, 1, .aload_n 0, 0, 0, 0, []), (118, 1, .iload_n 2, 0, 2, 0, []), (119, 3, .invokevirtual 152, 0, 80, 2, [(6,[])]), (122, 1, .aload_n 0, 0, 0, 0, []), (123, 1, .aload_n 0, 0, 0, 0, []), (124, 3, .getfield 149, 0, 6, 32, []), (127, 3, .invokevirtual 152, 0, 80, 2, [(6,[])]), (130, 1, .isub, 0, 0, 0, []), (131, 1, .istore_n 3, 0, 3, 0, []), (132, 1, .iload_n 3, 0, 3, 0, []), (133, 3, .ifCond .lt 21, 0, 0, 0, [(154,[true,true,true,false]), (136,[true,true,true,true])])]
def bX6_works_136 : List AOp := [(136, 1, .iload_n 3, 0, 3, 0, []), (137, 3, .ifCond .ne 22, 0, 0, 0, [(159,[true,true,true,false]), (140,[true,true,true,false])])]
def bX6_works_140 : List AOp := [(140, 1, .iload_n 2, 0, 2, 0, []), (141, 3, .invokestatic 146, 0, 81, 1, []), (144, 1, .aload_n 0, 0, 0, 0, []), (145, 3, .getfield 149, 0, 6, 32, []), (148, 3, .invokestatic 146, 0, 81, 1, []), (151, 3, .if_icmp .gt 8, 0, 0, 0, [(159,[true,true,true,false]), (154,[true,true,true,false])])]
def bX6_works_154 : List AOp := [(154, 1, .aload_n 0, 0, 0, 0, []), (155, 1, .iload_n 2, 0, 2, 0, []), (156, 3, .putfield 149, 0, 6, 32, []), (159, 0, .nop, 0, 0, 0, [(159,[true,true,true,false])])]
def bX6_works_159 : List AOp := [(159, 3, .iinc 2 (-1), (-1), 2, 0, []), (162, 3, .goto (-65), 0, 0, 0, [(97,[true,true,true,false])])]
def bX6_works_165 : List AOp := [(165, 1, .aload_n 0, 0, 0, 0, []), (166, 1, .iload_n 1, 0, 1, 0, []), (167, 1, .aload_n 0, 0, 0, 0, []), (168, 3, .getfield 149, 0, 6, 32, []), (171, 1, .iconst (-1), (-1), 0, 0, []), (172, 1, .ixor, 0, 0, 0, []), (173, 1, .iand, 0, 0, 0, []), (174, 3, .invokevirtual 133, 0, 77, 2, [(6,[])]), (177, 1, .aload_n 0, 0, 0, 0, []), (178, 1, .iload_n 1, 0, 1, 0, []), (179, 1, .aload_n 0, 0, 0, 0, []), (180, 3, .getfield 149, 0, 6, 32, []), (183, 1, .iconst (-1), (-1), 0, 0, []), (184, 1, .ixor, 0, 0, 0, []), (185, 1, .iand, 0, 0, 0, []), (186, 3, .invokevirtual 155, 0, 78, 2, [(6,[])]), (189, 1, .return_, 0, 0, 0, [])]
def blX6_works : List (Nat × List AOp) := [(0, bX6_works_0), (7, bX6_works_7), (8, bX6_works_8), (33, bX6_works_33), (38, bX6_works_38), (58, bX6_works_58), (65, bX6_works_65), (79, bX6_works_79), (84, bX6_works_84), (90, bX6_works_90), (97, bX6_works_97), (101, bX6_works_101), (114, bX6_works_114), (117, bX6_works_117), (136, bX6_works_136), (140, bX6_works_140), (154, bX6_works_154), (159, bX6_works_159), (165, bX6_works_165)]
def bX6_isSet_0 : List AOp := [(0, 1, .iload_n 1, 0, 1, 0, []), (1, 1, .iconst 0, 0, 0, 0, []), (2, 1, .iconst 1, 1, 0, 0, []), (3, 1, .aload_n 0, 0, 0, 0, []), (4, 3, .getfield 95, 0, 6, 6, []), (7, 1, .ishl, 0, 0, 0, []), (8, 1, .iconst 1, 1, 0, 0, []), (9, 1, .isub, 0, 0, 0, []), (10, 3, .invokestatic 91, 0, 62, 3, []), (13, 1, .ireturn, 0, 0, 0, [])]
def blX6_isSet : List (Nat × List AOp) := [(0, bX6_isSet_0)]
def bX6_agree_0 : List AOp := [(0, 1, .aload_n 0, 0, 0, 0, []), (1, 1, .iload_n 1, 0, 1, 0, []), (2, 3, .invokevirtual 158, 0, 83, 2, [(6,[])]), (5, 3, .ifCond .ne 5, 0, 0, 0, [(10,[true,true]), (8,[false,false])])]
def bX6_agree_8 : List AOp := [(8, 1, .iconst (-1), (-1), 0, 0, []), (9, 1, .ireturn, 0, 0, 0, [])]
def bX6_agree_10 : List AOp := [(10, 1, .aload_n 0, 0, 0, 0, []), (11, 3, .invokevirtual 161, 0, 82, 1, [(6,[])]), (14, 1, .aload_n 0, 0, 0, 0, []), (15, 3, .getfield 88, 0, 6, 31, []), (18, 1, .iload_n 1, 0, 1, 0, []), (19, 1, .baload, 0, 0, 0, []), (20, 3, .ifCond .eq 7, 0, 0, 0, [(27,[false,false]), (23,[false,false])])]
def bX6_agree_23 : List AOp := [(23, 1, .iconst 1, 1, 0, 0, []), (24, 3, .goto 4, 0, 0, 0, [(28,[false,false])])]
def bX6_agree_27 : List AOp := [(27, 1, .iconst 0, 0, 0, 0, []), (28, 0, .nop, 0, 0, 0, [(28,[false,false])])]
def bX6_agree_28 : List AOp := [(28, 1, .ireturn, 0, 0, 0, [])]
def blX6_agree : List (Nat × List AOp) := [(0, bX6_agree_0), (8, bX6_agree_8), (10, bX6_agree_10), (23, bX6_agree_23), (27, bX6_agree_27), (28, bX6_agree_28)]
def bX6_forged_0 : List AOp := [(0, 1, .aload_n 0, 0, 0, 0, []), (1, 3, .invokevirtual 161, 0, 82, 1, [(6,[])]), (4, 1, .aload_n 0, 0, 0, 0, []), (5, 3, .getfield 149, 0, 6, 32, []), (8, 1, .ireturn, 0, 0, 0, [])]
def blX6_forged : List (Nat × List AOp) := [(0, bX6_forged_0)]
def bX6_weight_0 : List AOp := [(0, 1, .aload_n 0, 0, 0, 0, []), (1, 1, .iload_n 1, 0, 1, 0, []), (2, 3, .invokevirtual 158, 0, 83, 2, [(6,[])]), (5, 3, .ifCond .eq 11, 0, 0, 0, [(16,[false,false]), (8,[true,true])])]
def bX6_weight_8 : List AOp := [(8, 1, .aload_n 0, 0, 0, 0, []), (9, 1, .iload_n 1, 0, 1, 0, []), (10, 3, .invokevirtual 152, 0, 80, 2, [(6,[])]), (13, 3, .goto 4, 0, 0, 0, [(17,[false,false])])]
def bX6_weight_16 : List AOp := [(16, 1, .iconst (-1), (-1), 0, 0, []), (17, 0, .nop, 0, 0, 0, [(17,[false,false])])]
def bX6_weight_17 : List AOp := [(17, 1, .ireturn, 0, 0, 0, [])]
def blX6_weight : List (Nat × List AOp) := [(0, bX6_weight_0), (8, bX6_weight_8), (16, bX6_weight_16), (17, bX6_weight_17)]
def bX6_isTrue_0 : List AOp := [(0, 1, .aload_n 0, 0, 0, 0, []), (1, 3, .invokevirtual 161, 0, 82, 1, [(6,[])]), (4, 1, .aload_n 0, 0, 0, 0, []), (5, 3, .getfield 149, 0, 6, 32, []), (8, 1, .iload_n 1, 0, 1, 0, []), (9, 3, .invokestatic 130, 0, 64, 2, []), (12, 3, .ifCond .ne 7, 0, 0, 0, [(19,[false,false]), (15,[false,false])])]
def bX6_isTrue_15 : List AOp := [(15, 1, .iconst 1, 1, 0, 0, []), (16, 3, .goto 4, 0, 0, 0, [(20,[false,false])])]
def bX6_isTrue_19 : List AOp := [(19, 1, .iconst 0, 0, 0, 0, []), (20, 0, .nop, 0, 0, 0, [(20,[false,false])])]
def bX6_isTrue_20 : List AOp := [(20, 1, .ireturn, 0, 0, 0, [])]
def blX6_isTrue : List (Nat × List AOp) := [(0, bX6_isTrue_0), (15, bX6_isTrue_15), (19, bX6_isTrue_19), (20, bX6_isTrue_20)]
def bX6_year_0 : List AOp := [(0, 1, .aload_n 0, 0, 0, 0, []), (1, 1, .iload_n 1, 0, 1, 0, []), (2, 3, .invokevirtual 115, 0, 65, 2, [(6,[])]), (5, 3, .ifCond .eq 20, 0, 0, 0, [(25,[false,false,false]), (8,[true,true,true])])]
def bX6_year_8 : List AOp := [(8, 1, .iload_n 2, 0, 2, 0, []), (9, 1, .iconst 0, 0, 0, 0, []), (10, 1, .iconst 1, 1, 0, 0, []), (11, 3, .invokestatic 91, 0, 62, 3, []), (14, 3, .ifCond .eq 11, 0, 0, 0, [(25,[false,false,false]), (17,[true,true,true])])]
def bX6_year_17 : List AOp := [(17, 1, .aload_n 0, 0, 0, 0, []), (18, 1, .iload_n 1, 0, 1, 0, []), (19, 3, .invokevirtual 164, 0, 87, 2, [(6,[])]), (22, 3, .ifCond .ne 7, 0, 0, 0, [(29,[true,true,true]), (25,[false,false,false])])]
def bX6_year_25 : List AOp := [(25, 1, .iconst (-1), (-1), 0, 0, []), (26, 3, .goto 22, 0, 0, 0, [(48,[false,false,false])])]
def bX6_year_29 : List AOp := [(29, 1, .iload_n 2, 0, 2, 0, []), (30, 3, .ifCond .ne 12, 0, 0, 0, [(42,[true,true,false]), (33,[true,true,false])])]
def bX6_year_33 : List AOp := [(33, 1, .aload_n 0, 0, 0, 0, []), (34, 3, .getfield 82, 0, 6, 28, []), (37, 1, .iload_n 1, 0, 1, 0, []), (38, 1, .iaload, 0, 0, 0, []), (39, 3, .goto 9, 0, 0, 0, [(48,[false,false,false])])]
def bX6_year_42 : List AOp := [(42, 1, .aload_n 0, 0, 0, 0, []), (43, 3, .getfield 85, 0, 6, 29, []), (46, 1, .iload_n 1, 0, 1, 0, []), (47, 1, .iaload, 0, 0, 0, []), (48, 0, .nop, 0, 0, 0, [(48,[false,false,false])])]
def bX6_year_48 : List AOp := [(48, 1, .ireturn, 0, 0, 0, [])]
def blX6_year : List (Nat × List AOp) := [(0, bX6_year_0), (8, bX6_year_8), (17, bX6_year_17), (25, bX6_year_25), (29, bX6_year_29), (33, bX6_year_33), (42, bX6_year_42), (48, bX6_year_48)]
def bX6_quarrel_0 : List AOp := [(0, 1, .aload_n 0, 0, 0, 0, []), (1, 3, .invokevirtual 161, 0, 82, 1, [(6,[])]), (4, 1, .aload_n 0, 0, 0, 0, []), (5, 3, .getfield 140, 0, 6, 33, []), (8, 1, .ireturn, 0, 0, 0, [])]
def blX6_quarrel : List (Nat × List AOp) := [(0, bX6_quarrel_0)]
def bX6_sure_0 : List AOp := [(0, 1, .iload_n 1, 0, 1, 0, []), (1, 1, .iconst 0, 0, 0, 0, []), (2, 1, .aload_n 0, 0, 0, 0, []), (3, 3, .getfield 98, 0, 6, 3, []), (6, 1, .iconst 1, 1, 0, 0, []), (7, 1, .isub, 0, 0, 0, []), (8, 3, .invokestatic 91, 0, 62, 3, []), (11, 3, .ifCond .eq 12, 0, 0, 0, [(23,[false,false,false,false,false,false]), (14,[true,true,true,false,false,false])])]
def bX6_sure_14 : List AOp := [(14, 1, .iload_n 2, 0, 2, 0, []), (15, 1, .iconst 0, 0, 0, 0, []), (16, 1, .iconst 1, 1, 0, 0, []), (17, 3, .invokestatic 91, 0, 62, 3, []), (20, 3, .ifCond .ne 5, 0, 0, 0, [(25,[true,true,true,false,false,false]), (23,[false,false,false,false,false,false])])]
def bX6_sure_23 : List AOp := [(23, 1, .iconst (-1), (-1), 0, 0, []), (24, 1, .ireturn, 0, 0, 0, [])]
def bX6_sure_25 : List AOp := [(25, 1, .iconst (-1), (-1), 0, 0, []), (26, 1, .istore_n 3, 0, 3, 0, []), (27, 1, .iconst (-1), (-1), 0, 0, []), (28, 2, .istore 4, 0, 4, 0, []), (30, 1, .iconst 0, 0, 0, 0, []), (31, 2, .istore 5, 0, 5, 0, []), (33, 0, .nop, 0, 0, 0, [(33,[true,true,true,true,true,true])])]
def bX6_sure_33 : List AOp := [(33, 2, .iload 5, 0, 5, 0, []), (35, 1, .aload_n 0, 0, 0, 0, []), (36, 3, .getfield 95, 0, 6, 6, []), (39, 3, .if_icmp .ge 92, 0, 0, 0, [(131,[false,false,true,true,true,false]), (42,[true,true,true,true,true,true])])]
def bX6_sure_42 : List AOp := [(42, 1, .aload_n 0, 0, 0, 0, []), (43, 2, .iload 5, 0, 5, 0, []), (45, 3, .invokevirtual 164, 0, 87, 2, [(6,[])]), (48, 3, .ifCond .eq 77, 0, 0, 0, [(125,[true,true,true,true,true,true]), (51,[true,true,true,true,true,true])])]
def bX6_sure_51 : List AOp := [(51, 1, .aload_n 0, 0, 0, 0, []), (52, 2, .iload 5, 0, 5, 0, []), (54, 1, .iconst 0, 0, 0, 0, []), (55, 1, .iload_n 1, 0, 1, 0, []), (56, 3, .invokevirtual 123, 0, 73, 4, [(6,[])]), (59, 3, .ifCond .ne 6, 0, 0, 0, [(65,[true,true,true,true,true,true]), (62,[true,true,true,true,true,true])])]
def bX6_sure_62 : List AOp := [(62, 3, .goto 63, 0, 0, 0, [(125,[true,true,true,true,true,true])])]
def bX6_sure_65 : List AOp := [(65, 1, .iload_n 3, 0, 3, 0, []), (66, 1, .iconst (-1), (-1), 0, 0, []), (67, 3, .if_icmp .eq 14, 0, 0, 0, [(81,[true,true,true,false,true,true]), (70,[true,true,true,true,true,true])])]
def bX6_sure_70 : List AOp := [(70, 1, .aload_n 0, 0, 0, 0, []), (71, 3, .getfield 85, 0, 6, 29, []), (74, 2, .iload 5, 0, 5, 0, []), (76, 1, .iaload, 0, 0, 0, []), (77, 1, .iload_n 3, 0, 3, 0, []), (78, 3, .if_icmp .ge 13, 0, 0, 0, [(91,[true,true,true,true,true,true]), (81,[true,true,true,false,true,true])])]
def bX6_sure_81 : List AOp := [(81, 1, .aload_n 0, 0, 0, 0, []), (82, 3, .getfield 85, 0, 6, 29, []), (85, 2, .iload 5, 0, 5, 0, []), (87, 1, .iaload, 0, 0, 0, []), (88, 3, .goto 4, 0, 0, 0, [(92,[true,true,true,false,true,true])])]
def bX6_sure_91 : List AOp := [(91, 1, .iload_n 3, 0, 3, 0, []), (92, 0, .nop, 0, 0, 0, [(92,[true,true,true,false,true,true])])]
def bX6_sure_92 : List AOp := [(92, 1, .istore_n 3, 0, 3, 0, []), (93, 2, .iload 4, 0, 4, 0, []), (95, 1, .iconst (-1), (-1), 0, 0, []), (96, 3, .if_icmp .eq 15, 0, 0, 0, [(111,[true,true,true,true,false,true]), (99,[true,true,true,true,true,true])])]
def bX6_sure_99 : List AOp := [(99, 1, .aload_n 0, 0, 0, 0, []), (100, 3, .getfield 82, 0, 6, 28, []), (103, 2, .iload 5, 0, 5, 0, []), (105, 1, .iaload, 0, 0, 0, []), (106, 2, .iload 4, 0, 4, 0, []), (108, 3, .if_icmp .le 13, 0, 0, 0, [(121,[true,true,true,true,true,true]), (111,[true,true,true,true,false,true])])]
def bX6_sure_111 : List AOp := [(111, 1, .aload_n 0, 0, 0, 0, []), (112, 3, .getfield 82, 0, 6, 28, []), (115, 2, .iload 5, 0, 5, 0, []), (117, 1, .iaload, 0, 0, 0, []), (118, 3, .goto 5, 0, 0, 0, [(123,[true,true,true,true,false,true])])]
def bX6_sure_121 : List AOp := [(121, 2, .iload 4, 0, 4, 0, []), (123, 0, .nop, 0, 0, 0, [(123,[true,true,true,true,false,true])])]
def bX6_sure_123 : List AOp := [(123, 2, .istore 4, 0, 4, 0, []), (125, 0, .nop, 0, 0, 0, [(125,[true,true,true,true,true,true])])]
def bX6_sure_125 : List AOp := [(125, 3, .iinc 5 1, 1, 5, 0, []), (128, 3, .goto (-95), 0, 0, 0, [(33,[true,true,true,true,true,true])])]
def bX6_sure_131 : List AOp := [(131, 1, .iload_n 3, 0, 3, 0, []), (132, 1, .iconst (-1), (-1), 0, 0, []), (133, 3, .if_icmp .eq 9, 0, 0, 0, [(142,[false,false,false,false,false,false]), (136,[false,false,true,true,true,false])])]
def bX6_sure_136 : List AOp := [(136, 2, .iload 4, 0, 4, 0, []), (138, 1, .iload_n 3, 0, 3, 0, []), (139, 3, .if_icmp .ge 7, 0, 0, 0, [(146,[false,false,true,true,true,false]), (142,[false,false,false,false,false,false])])]
def bX6_sure_142 : List AOp := [(142, 1, .iconst (-1), (-1), 0, 0, []), (143, 3, .goto 13, 0, 0, 0, [(156,[false,false,false,false,false,false])])]
def bX6_sure_146 : List AOp := [(146, 1, .iload_n 2, 0, 2, 0, []), (147, 3, .ifCond .ne 7, 0, 0, 0, [(154,[false,false,false,false,true,false]), (150,[false,false,false,true,false,false])])]
def bX6_sure_150 : List AOp := [(150, 1, .iload_n 3, 0, 3, 0, []), (151, 3, .goto 5, 0, 0, 0, [(156,[false,false,false,false,false,false])])]
def bX6_sure_154 : List AOp := [(154, 2, .iload 4, 0, 4, 0, []), (156, 0, .nop, 0, 0, 0, [(156,[false,false,false,false,false,false])])]
def bX6_sure_156 : List AOp := [(156, 1, .ireturn, 0, 0, 0, [])]
def blX6_sure : List (Nat × List AOp) := [(0, bX6_sure_0), (14, bX6_sure_14), (23, bX6_sure_23), (25, bX6_sure_25), (33, bX6_sure_33), (42, bX6_sure_42), (51, bX6_sure_51), (62, bX6_sure_62), (65, bX6_sure_65), (70, bX6_sure_70), (81, bX6_sure_81), (91, bX6_sure_91), (92, bX6_sure_92), (99, bX6_sure_99), (111, bX6_sure_111), (121, bX6_sure_121), (123, bX6_sure_123), (125, bX6_sure_125), (131, bX6_sure_131), (136, bX6_sure_136), (142, bX6_sure_142), (146, bX6_sure_146), (150, bX6_sure_150), (154, bX6_sure_154), (156, bX6_sure_156)]
def bX6_push_0 : List AOp := [(0, 2, .bipush 24, 24, 0, 0, []), (2, 1, .istore_n 2, 0, 2, 0, []), (3, 0, .nop, 0, 0, 0, [(3,[true,true,true])])]
def bX6_push_3 : List AOp := [(3, 1, .iload_n 2, 0, 2, 0, []), (4, 3, .ifCond .lt 32, 0, 0, 0, [(36,[false,false,false]), (7,[true,true,true])])]
def bX6_push_7 : List AOp := [(7, 1, .aload_n 0, 0, 0, 0, []), (8, 3, .getfield 7, 0, 6, 0, []), (11, 1, .aload_n 0, 0, 0, 0, []), (12, 3, .getfield 167, 0, 6, 1, []), (15, 1, .iload_n 1, 0, 1, 0, []), (16, 1, .iload_n 2, 0, 2, 0, []), (17, 1, .ishr, 0, 0, 0, []), (18, 1, .i2b, 0, 0, 0, []), (19, 1, .bastore, 0, 0, 0, []), (20, 1, .aload_n 0, 0, 0, 0, []), (21, 1, .dup, 0, 0, 0, []), (22, 3, .getfield 167, 0, 6, 1, []), (25, 1, .iconst 1, 1, 0, 0, []), (26, 1, .iadd, 0, 0, 0, []), (27, 3, .putfield 167, 0, 6, 1, []), (30, 3, .iinc 2 (-8), (-8), 2, 0, []), (33, 3, .goto (-30), 0, 0, 0, [(3,[true,true,true])])]
def bX6_push_36 : List AOp := [(36, 1, .return_, 0, 0, 0, [])]
def blX6_push : List (Nat × List AOp) := [(0, bX6_push_0), (3, bX6_push_3), (7, bX6_push_7), (36, bX6_push_36)]
def bX6_feed_0 : List AOp := [(0, 1, .aload_n 0, 0, 0, 0, []), (1, 3, .getfield 167, 0, 6, 1, []), (4, 2, .bipush 20, 20, 0, 0, []), (6, 1, .iadd, 0, 0, 0, []), (7, 2, .bipush 40, 40, 0, 0, []), (9, 3, .if_icmp .le 5, 0, 0, 0, [(14,[true,true,true,true,true,true]), (12,[false,false,false,false,false,false])])]
def bX6_feed_12 : List AOp := [(12, 1, .iconst (-1), (-1), 0, 0, []), (13, 1, .ireturn, 0, 0, 0, [])]
def bX6_feed_14 : List AOp := [(14, 1, .aload_n 0, 0, 0, 0, []), (15, 1, .iload_n 1, 0, 1, 0, []), (16, 3, .invokevirtual 170, 0, 91, 2, [(6,[])]), (19, 1, .aload_n 0, 0, 0, 0, []), (20, 1, .iload_n 2, 0, 2, 0, []), (21, 3, .invokevirtual 170, 0, 91, 2, [(6,[])]), (24, 1, .aload_n 0, 0, 0, 0, []), (25, 1, .iload_n 3, 0, 3, 0, []), (26, 3, .invokevirtual 170, 0, 91, 2, [(6,[])]), (29, 1, .aload_n 0, 0, 0, 0, []), (30, 2, .iload 4, 0, 4, 0, []), (32, 3, .invokevirtual 170, 0, 91, 2, [(6,[])]), (35, 1, .aload_n 0, 0, 0, 0, []), (36, 2, .iload 5, 0, 5, 0, []), (38, 3, .invokevirtual 170, 0, 91, 2, [(6,[])]), (41, 1, .aload_n 0, 0, 0, 0, []), (42, 3, .getfield 167, 0, 6, 1, []), (45, 1, .ireturn, 0, 0, 0, [])]
def blX6_feed : List (Nat × List AOp) := [(0, bX6_feed_0), (12, bX6_feed_12), (14, bX6_feed_14)]
def bX6_words_0 : List AOp := [(0, 1, .aload_n 0, 0, 0, 0, []), (1, 1, .iload_n 1, 0, 1, 0, []), (2, 3, .invokevirtual 115, 0, 65, 2, [(6,[])]), (5, 3, .ifCond .eq 21, 0, 0, 0, [(26,[false,false,false,false]), (8,[true,true,true,false])])]
def bX6_words_8 : List AOp := [(8, 1, .iload_n 2, 0, 2, 0, []), (9, 1, .iconst 0, 0, 0, 0, []), (10, 2, .bipush 20, 20, 0, 0, []), (12, 3, .invokestatic 91, 0, 62, 3, []), (15, 3, .ifCond .eq 11, 0, 0, 0, [(26,[false,false,false,false]), (18,[true,true,true,false])])]
def bX6_words_18 : List AOp := [(18, 1, .iload_n 2, 0, 2, 0, []), (19, 1, .aload_n 0, 0, 0, 0, []), (20, 3, .getfield 167, 0, 6, 1, []), (23, 3, .if_icmp .le 5, 0, 0, 0, [(28,[true,true,true,false]), (26,[false,false,false,false])])]
def bX6_words_26 : List AOp := [(26, 1, .iconst 0, 0, 0, 0, []), (27, 1, .ireturn, 0, 0, 0, [])]
def bX6_words_28 : List AOp := [(28, 1, .aload_n 0, 0, 0, 0, []), (29, 1, .iconst 0, 0, 0, 0, []), (30, 3, .putfield 167, 0, 6, 1, []), (33, 1, .iconst 0, 0, 0, 0, []), (34, 1, .istore_n 3, 0, 3, 0, []), (35, 0, .nop, 0, 0, 0, [(35,[true,true,true,true])])]
def bX6_words_35 : List AOp := [(35, 1, .iload_n 3, 0, 3, 0, []), (36, 1, .iload_n 2, 0, 2, 0, []), (37, 3, .if_icmp .ge 27, 0, 0, 0, [(64,[true,true,true,false]), (40,[true,true,true,true])])]
def bX6_words_40 : List AOp := [(40, 1, .aload_n 0, 0, 0, 0, []), (41, 3, .getfield 7, 0, 6, 0, []), (44, 1, .iload_n 3, 0, 3, 0, []), (45, 1, .baload, 0, 0, 0, []), (46, 2, .bipush 97, 97, 0, 0, []), (48, 2, .bipush 122, 122, 0, 0, []), (50, 3, .invokestatic 91, 0, 62, 3, []), (53, 3, .ifCond .ne 5, 0, 0, 0, [(58,[true,true,true,true]), (56,[false,false,false,false])])]
def bX6_words_56 : List AOp := [(56, 1, .iconst 0, 0, 0, 0, []), (57, 1, .ireturn, 0, 0, 0, [])]
def bX6_words_58 : List AOp := [(58, 3, .iinc 3 1, 1, 3, 0, []), (61, 3, .goto (-26), 0, 0, 0, [(35,[true,true,true,true])])]
def bX6_words_64 : List AOp := [(64, 1, .aload_n 0, 0, 0, 0, []), (65, 3, .getfield 54, 0, 6, 19, []), (68, 1, .iload_n 1, 0, 1, 0, []), (69, 1, .iload_n 2, 0, 2, 0, []), (70, 1, .iastore, 0, 0, 0, []), (71, 1, .iconst 0, 0, 0, 0, []), (72, 1, .istore_n 3, 0, 3, 0, []), (73, 0, .nop, 0, 0, 0, [(73,[true,true,true,true])])]
def bX6_words_73 : List AOp := [(73, 1, .iload_n 3, 0, 3, 0, []), (74, 1, .iload_n 2, 0, 2, 0, []), (75, 3, .if_icmp .ge 26, 0, 0, 0, [(101,[false,false,false,false]), (78,[true,true,true,true])])]
def bX6_words_78 : List AOp := [(78, 1, .aload_n 0, 0, 0, 0, []), (79, 3, .getfield 57, 0, 6, 20, []), (82, 2, .bipush 20, 20, 0, 0, []), (84, 1, .iload_n 1, 0, 1, 0, []), (85, 1, .imul, 0, 0, 0, []), (86, 1, .iload_n 3, 0, 3, 0, []), (87, 1, .iadd, 0, 0, 0, []), (88, 1, .aload_n 0, 0, 0, 0, []), (89, 3, .getfield 7, 0, 6, 0, []), (92, 1, .iload_n 3, 0, 3, 0, []), (93, 1, .baload, 0, 0, 0, []), (94, 1, .bastore, 0, 0, 0, []), (95, 3, .iinc 3 1, 1, 3, 0, []), (98, 3, .goto (-25), 0, 0, 0, [(73,[true,true,true,true])])]
def bX6_words_101 : List AOp := [(101, 1, .iconst 1, 1, 0, 0, []), (102, 1, .ireturn, 0, 0, 0, [])]
def blX6_words : List (Nat × List AOp) := [(0, bX6_words_0), (8, bX6_words_8), (18, bX6_words_18), (26, bX6_words_26), (28, bX6_words_28), (35, bX6_words_35), (40, bX6_words_40), (56, bX6_words_56), (58, bX6_words_58), (64, bX6_words_64), (73, bX6_words_73), (78, bX6_words_78), (101, bX6_words_101)]
def bX6_alike_0 : List AOp := [(0, 1, .iconst 0, 0, 0, 0, []), (1, 2, .istore 5, 0, 5, 0, []), (3, 0, .nop, 0, 0, 0, [(3,[true,true,true,true,true,true])])]
def bX6_alike_3 : List AOp := [(3, 1, .iload_n 2, 0, 2, 0, []), (4, 2, .iload 5, 0, 5, 0, []), (6, 1, .iadd, 0, 0, 0, []), (7, 1, .aload_n 0, 0, 0, 0, []), (8, 3, .getfield 54, 0, 6, 19, []), (11, 1, .iload_n 1, 0, 1, 0, []), (12, 1, .iaload, 0, 0, 0, []), (13, 3, .if_icmp .ge 55, 0, 0, 0, [(68,[false,false,false,false,false,true]), (16,[true,true,true,true,true,true])])]
def bX6_alike_16 : List AOp := [(16, 2, .iload 4, 0, 4, 0, []), (18, 2, .iload 5, 0, 5, 0, []), (20, 1, .iadd, 0, 0, 0, []), (21, 1, .aload_n 0, 0, 0, 0, []), (22, 3, .getfield 54, 0, 6, 19, []), (25, 1, .iload_n 3, 0, 3, 0, []), (26, 1, .iaload, 0, 0, 0, []), (27, 3, .if_icmp .ge 41, 0, 0, 0, [(68,[false,false,false,false,false,true]), (30,[true,true,true,true,true,true])])]
def bX6_alike_30 : List AOp := [(30, 1, .aload_n 0, 0, 0, 0, []), (31, 3, .getfield 57, 0, 6, 20, []), (34, 2, .bipush 20, 20, 0, 0, []), (36, 1, .iload_n 1, 0, 1, 0, []), (37, 1, .imul, 0, 0, 0, []), (38, 1, .iload_n 2, 0, 2, 0, []), (39, 1, .iadd, 0, 0, 0, []), (40, 2, .iload 5, 0, 5, 0, []), (42, 1, .iadd, 0, 0, 0, []), (43, 1, .baload, 0, 0, 0, []), (44, 1, .aload_n 0, 0, 0, 0, []), (45, 3, .getfield 57, 0, 6, 20, []), (48, 2, .bipush 20, 20, 0, 0, []), (50, 1, .iload_n 3, 0, 3, 0, []), (51, 1, .imul, 0, 0, 0, []), (52, 2, .iload 4, 0, 4, 0, []), (54, 1, .iadd, 0, 0, 0, []), (55, 2, .iload 5, 0, 5, 0, []), (57, 1, .iadd, 0, 0, 0, []), (58, 1, .baload, 0, 0, 0, []), (59, 3, .if_icmp .ne 9, 0, 0, 0, [(68,[false,false,false,false,false,true]), (62,[true,true,true,true,true,true])])]
def bX6_alike_62 : List AOp := [(62, 3, .iinc 5 1, 1, 5, 0, []), (65, 3, .goto (-62), 0, 0, 0, [(3,[true,true,true,true,true,true])])]
def bX6_alike_68 : List AOp := [(68, 2, .iload 5, 0, 5, 0, []), (70, 1, .ireturn, 0, 0, 0, [])]
def blX6_alike : List (Nat × List AOp) := [(0, bX6_alike_0), (3, bX6_alike_3), (16, bX6_alike_16), (30, bX6_alike_30), (62, bX6_alike_62), (68, bX6_alike_68)]
def bX6_model_0 : List AOp := [(0, 1, .aload_n 0, 0, 0, 0, []), (1, 1, .iload_n 1, 0, 1, 0, []), (2, 3, .invokevirtual 115, 0, 65, 2, [(6,[])]), (5, 3, .ifCond .eq 12, 0, 0, 0, [(17,[false,false,false,false,false,false,false,false,false,false,false]), (8,[true,true,true,false,false,false,false,false,false,false,false])])]
def bX6_model_8 : List AOp := [(8, 1, .iload_n 2, 0, 2, 0, []), (9, 1, .iconst 0, 0, 0, 0, []), (10, 1, .iconst 3, 3, 0, 0, []), (11, 3, .invokestatic 91, 0, 62, 3, []), (14, 3, .ifCond .ne 5, 0, 0, 0, [(19,[true,true,true,false,false,false,false,false,false,false,false]), (17,[false,false,false,false,false,false,false,false,false,false,false])])]
def bX6_model_17 : List AOp := [(17, 1, .iconst (-1), (-1), 0, 0, []), (18, 1, .ireturn, 0, 0, 0, [])]
def bX6_model_19 : List AOp := [(19, 1, .iconst 3, 3, 0, 0, []), (20, 1, .istore_n 3, 0, 3, 0, []), (21, 1, .iconst (-1), (-1), 0, 0, []), (22, 2, .istore 4, 0, 4, 0, []), (24, 1, .iconst 0, 0, 0, 0, []), (25, 2, .istore 5, 0, 5, 0, []), (27, 1, .iconst 0, 0, 0, 0, []), (28, 2, .istore 6, 0, 6, 0, []), (30, 1, .iconst 0, 0, 0, 0, []), (31, 2, .istore 7, 0, 7, 0, []), (33, 0, .nop, 0, 0, 0, [(33,[true,true,true,true,true,true,true,true,false,false,false])])]
def bX6_model_33 : List AOp := [(33, 2, .iload 7, 0, 7, 0, []), (35, 1, .aload_n 0, 0, 0, 0, []), (36, 3, .getfield 95, 0, 6, 6, []), (39, 3, .if_icmp .ge 93, 0, 0, 0, [(132,[false,false,true,true,true,true,true,false,false,false,false]), (42,[true,true,true,true,true,true,true,true,false,false,false])])]
def bX6_model_42 : List AOp := [(42, 1, .iconst 0, 0, 0, 0, []), (43, 2, .istore 8, 0, 8, 0, []), (45, 0, .nop, 0, 0, 0, [(45,[true,true,true,true,true,true,true,true,true,false,false])])]
def bX6_model_45 : List AOp := [(45, 2, .iload 8, 0, 8, 0, []), (47, 1, .aload_n 0, 0, 0, 0, []), (48, 3, .getfield 54, 0, 6, 19, []), (51, 1, .iload_n 1, 0, 1, 0, []), (52, 1, .iaload, 0, 0, 0, []), (53, 3, .if_icmp .ge 73, 0, 0, 0, [(126,[true,true,true,true,true,true,true,true,false,false,false]), (56,[true,true,true,true,true,true,true,true,true,false,false])])]
def bX6_model_56 : List AOp := [(56, 2, .iload 7, 0, 7, 0, []), (58, 1, .iload_n 1, 0, 1, 0, []), (59, 3, .if_icmp .eq 67, 0, 0, 0, [(126,[true,true,true,true,true,true,true,true,false,false,false]), (62,[true,true,true,true,true,true,true,true,true,false,false])])]
def bX6_model_62 : List AOp := [(62, 1, .iconst 0, 0, 0, 0, []), (63, 2, .istore 9, 0, 9, 0, []), (65, 0, .nop, 0, 0, 0, [(65,[true,true,true,true,true,true,true,true,true,true,false])])]
def bX6_model_65 : List AOp := [(65, 2, .iload 9, 0, 9, 0, []), (67, 1, .aload_n 0, 0, 0, 0, []), (68, 3, .getfield 54, 0, 6, 19, []), (71, 2, .iload 7, 0, 7, 0, []), (73, 1, .iaload, 0, 0, 0, []), (74, 3, .if_icmp .ge 46, 0, 0, 0, [(120,[true,true,true,true,true,true,true,true,true,false,false]), (77,[true,true,true,true,true,true,true,true,true,true,false])])]
def bX6_model_77 : List AOp := [(77, 1, .aload_n 0, 0, 0, 0, []), (78, 1, .iload_n 1, 0, 1, 0, []), (79, 2, .iload 8, 0, 8, 0, []), (81, 2, .iload 7, 0, 7, 0, []), (83, 2, .iload 9, 0, 9, 0, []), (85, 3, .invokevirtual 173, 0, 94, 5, [(6,[])]), (88, 2, .istore 10, 0, 10, 0, []), (90, 2, .iload 10, 0, 10, 0, []), (92, 1, .iload_n 3, 0, 3, 0, []), (93, 3, .if_icmp .gt 6, 0, 0, 0, [(99,[true,true,true,false,false,false,false,true,true,true,true]), (96,[true,true,true,true,true,true,true,true,true,true,false])])]
def bX6_model_96 : List AOp := [(96, 3, .goto 18, 0, 0, 0, [(114,[true,true,true,true,true,true,true,true,true,true,false])])]
def bX6_model_99 : List AOp := [(99, 2, .iload 10, 0, 10, 0, []), (101, 1, .istore_n 3, 0, 3, 0, []), (102, 2, .iload 7, 0, 7, 0, []), (104, 2, .istore 4, 0, 4, 0, []), (106, 2, .iload 8, 0, 8, 0, []), (108, 2, .istore 5, 0, 5, 0, []), (110, 2, .iload 9, 0, 9, 0, []), (112, 2, .istore 6, 0, 6, 0, []), (114, 0, .nop, 0, 0, 0, [(114,[true,true,true,true,true,true,true,true,true,true,false])])]
def bX6_model_114 : List AOp := [(114, 3, .iinc 9 1, 1, 9, 0, []), (117, 3, .goto (-52), 0, 0, 0, [(65,[true,true,true,true,true,true,true,true,true,true,false])])]
def bX6_model_120 : List AOp := [(120, 3, .iinc 8 1, 1, 8, 0, []), (123, 3, .goto (-78), 0, 0, 0, [(45,[true,true,true,true,true,true,true,true,true,false,false])])]
def bX6_model_126 : List AOp := [(126, 3, .iinc 7 1, 1, 7, 0, []), (129, 3, .goto (-96), 0, 0, 0, [(33,[true,true,true,true,true,true,true,true,false,false,false])])]
def bX6_model_132 : List AOp := [(132, 2, .iload 4, 0, 4, 0, []), (134, 1, .iconst (-1), (-1), 0, 0, []), (135, 3, .if_icmp .ne 5, 0, 0, 0, [(140,[false,false,true,true,true,true,true,false,false,false,false]), (138,[false,false,false,false,false,false,false,false,false,false,false])])]
def bX6_model_138 : List AOp := [(138, 1, .iconst (-1), (-1), 0, 0, []), (139, 1, .ireturn, 0, 0, 0, [])]
def bX6_model_140 : List AOp := [(140, 1, .iload_n 2, 0, 2, 0, []), (141, 3, .ifCond .ne 8, 0, 0, 0, [(149,[false,false,true,true,false,true,true,false,false,false,false]), (144,[false,false,false,false,true,false,false,false,false,false,false])])]
def bX6_model_144 : List AOp := [(144, 2, .iload 4, 0, 4, 0, []), (146, 3, .goto 24, 0, 0, 0, [(170,[false,false,false,false,false,false,false,false,false,false,false])])]
def bX6_model_149 : List AOp := [(149, 1, .iload_n 2, 0, 2, 0, []), (150, 1, .iconst 1, 1, 0, 0, []), (151, 3, .if_icmp .ne 7, 0, 0, 0, [(158,[false,false,true,false,false,true,true,false,false,false,false]), (154,[false,false,false,true,false,false,false,false,false,false,false])])]
def bX6_model_154 : List AOp := [(154, 1, .iload_n 3, 0, 3, 0, []), (155, 3, .goto 15, 0, 0, 0, [(170,[false,false,false,false,false,false,false,false,false,false,false])])]
def bX6_model_158 : List AOp := [(158, 1, .iload_n 2, 0, 2, 0, []), (159, 1, .iconst 2, 2, 0, 0, []), (160, 3, .if_icmp .ne 8, 0, 0, 0, [(168,[false,false,false,false,false,false,true,false,false,false,false]), (163,[false,false,false,false,false,true,false,false,false,false,false])])]
def bX6_model_163 : List AOp := [(163, 2, .iload 5, 0, 5, 0, []), (165, 3, .goto 5, 0, 0, 0, [(170,[false,false,false,false,false,false,false,false,false,false,false])])]
def bX6_model_168 : List AOp := [(168, 2, .iload 6, 0, 6, 0, []), (170, 0, .nop, 0, 0, 0, [(170,[false,false,false,false,false,false,false,false,false,false,false])])]
def bX6_model_170 : List AOp := [(170, 1, .ireturn, 0, 0, 0, [])]
def blX6_model : List (Nat × List AOp) := [(0, bX6_model_0), (8, bX6_model_8), (17, bX6_model_17), (19, bX6_model_19), (33, bX6_model_33), (42, bX6_model_42), (45, bX6_model_45), (56, bX6_model_56), (62, bX6_model_62), (65, bX6_model_65), (77, bX6_model_77), (96, bX6_model_96), (99, bX6_model_99), (114, bX6_model_114), (120, bX6_model_120), (126, bX6_model_126), (132, bX6_model_132), (138, bX6_model_138), (140, bX6_model_140), (144, bX6_model_144), (149, bX6_model_149), (154, bX6_model_154), (158, bX6_model_158), (163, bX6_model_163), (168, bX6_model_168), (170, bX6_model_170)]
def bX6_claim_0 : List AOp := [(0, 1, .aload_n 0, 0, 0, 0, []), (1, 1, .iload_n 1, 0, 1, 0, []), (2, 3, .invokevirtual 115, 0, 65, 2, [(6,[])]), (5, 3, .ifCond .eq 23, 0, 0, 0, [(28,[false,false,false,false]), (8,[true,true,true,true])])]
def bX6_claim_8 : List AOp := [(8, 1, .iload_n 2, 0, 2, 0, []), (9, 1, .iconst 0, 0, 0, 0, []), (10, 1, .iconst 3, 3, 0, 0, []), (11, 3, .invokestatic 91, 0, 62, 3, []), (14, 3, .ifCond .eq 14, 0, 0, 0, [(28,[false,false,false,false]), (17,[true,true,true,true])])]
def bX6_claim_17 : List AOp := [(17, 1, .iload_n 3, 0, 3, 0, []), (18, 1, .iconst 0, 0, 0, 0, []), (19, 3, .sipush 1023, 1023, 0, 0, []), (22, 3, .invokestatic 91, 0, 62, 3, []), (25, 3, .ifCond .ne 5, 0, 0, 0, [(30,[true,true,true,true]), (28,[false,false,false,false])])]
def bX6_claim_28 : List AOp := [(28, 1, .iconst 0, 0, 0, 0, []), (29, 1, .ireturn, 0, 0, 0, [])]
def bX6_claim_30 : List AOp := [(30, 1, .aload_n 0, 0, 0, 0, []), (31, 3, .getfield 60, 0, 6, 21, []), (34, 1, .iload_n 1, 0, 1, 0, []), (35, 1, .iload_n 2, 0, 2, 0, []), (36, 1, .iastore, 0, 0, 0, []), (37, 1, .aload_n 0, 0, 0, 0, []), (38, 3, .getfield 63, 0, 6, 22, []), (41, 1, .iload_n 1, 0, 1, 0, []), (42, 1, .iload_n 3, 0, 3, 0, []), (43, 1, .iastore, 0, 0, 0, []), (44, 1, .iconst 1, 1, 0, 0, []), (45, 1, .ireturn, 0, 0, 0, [])]
def blX6_claim : List (Nat × List AOp) := [(0, bX6_claim_0), (8, bX6_claim_8), (17, bX6_claim_17), (28, bX6_claim_28), (30, bX6_claim_30)]
def bX6_both_0 : List AOp := [(0, 1, .aload_n 0, 0, 0, 0, []), (1, 3, .getfield 60, 0, 6, 21, []), (4, 1, .iload_n 1, 0, 1, 0, []), (5, 1, .iaload, 0, 0, 0, []), (6, 1, .iconst (-1), (-1), 0, 0, []), (7, 3, .if_icmp .eq 44, 0, 0, 0, [(51,[false,false,false]), (10,[true,true,true])])]
def bX6_both_10 : List AOp := [(10, 1, .aload_n 0, 0, 0, 0, []), (11, 3, .getfield 60, 0, 6, 21, []), (14, 1, .iload_n 2, 0, 2, 0, []), (15, 1, .iaload, 0, 0, 0, []), (16, 1, .iconst (-1), (-1), 0, 0, []), (17, 3, .if_icmp .eq 34, 0, 0, 0, [(51,[false,false,false]), (20,[true,true,true])])]
def bX6_both_20 : List AOp := [(20, 1, .aload_n 0, 0, 0, 0, []), (21, 3, .getfield 60, 0, 6, 21, []), (24, 1, .iload_n 1, 0, 1, 0, []), (25, 1, .iaload, 0, 0, 0, []), (26, 1, .aload_n 0, 0, 0, 0, []), (27, 3, .getfield 60, 0, 6, 21, []), (30, 1, .iload_n 2, 0, 2, 0, []), (31, 1, .iaload, 0, 0, 0, []), (32, 3, .if_icmp .eq 19, 0, 0, 0, [(51,[false,false,false]), (35,[true,true,true])])]
def bX6_both_35 : List AOp := [(35, 1, .aload_n 0, 0, 0, 0, []), (36, 1, .iload_n 1, 0, 1, 0, []), (37, 3, .invokevirtual 164, 0, 87, 2, [(6,[])]), (40, 3, .ifCond .eq 11, 0, 0, 0, [(51,[false,false,false]), (43,[true,true,true])])]
def bX6_both_43 : List AOp := [(43, 1, .aload_n 0, 0, 0, 0, []), (44, 1, .iload_n 2, 0, 2, 0, []), (45, 3, .invokevirtual 164, 0, 87, 2, [(6,[])]), (48, 3, .ifCond .ne 7, 0, 0, 0, [(55,[true,true,true]), (51,[false,false,false])])]
def bX6_both_51 : List AOp := [(51, 1, .iconst 0, 0, 0, 0, []), (52, 3, .goto 16, 0, 0, 0, [(68,[false,false,false])])]
def bX6_both_55 : List AOp := [(55, 1, .aload_n 0, 0, 0, 0, []), (56, 3, .getfield 63, 0, 6, 22, []), (59, 1, .iload_n 1, 0, 1, 0, []), (60, 1, .iaload, 0, 0, 0, []), (61, 1, .aload_n 0, 0, 0, 0, []), (62, 3, .getfield 63, 0, 6, 22, []), (65, 1, .iload_n 2, 0, 2, 0, []), (66, 1, .iaload, 0, 0, 0, []), (67, 1, .iand, 0, 0, 0, []), (68, 0, .nop, 0, 0, 0, [(68,[false,false,false])])]
def bX6_both_68 : List AOp := [(68, 1, .ireturn, 0, 0, 0, [])]
def blX6_both : List (Nat × List AOp) := [(0, bX6_both_0), (10, bX6_both_10), (20, bX6_both_20), (35, bX6_both_35), (43, bX6_both_43), (51, bX6_both_51), (55, bX6_both_55), (68, bX6_both_68)]
def bX6_clash_0 : List AOp := [(0, 1, .iload_n 1, 0, 1, 0, []), (1, 3, .ifCond .lt 12, 0, 0, 0, [(13,[false,false,false,false,false,false]), (4,[true,true,true,false,false,false])])]
def bX6_clash_4 : List AOp := [(4, 1, .iload_n 2, 0, 2, 0, []), (5, 1, .iconst 0, 0, 0, 0, []), (6, 1, .iconst 2, 2, 0, 0, []), (7, 3, .invokestatic 91, 0, 62, 3, []), (10, 3, .ifCond .ne 5, 0, 0, 0, [(15,[true,true,true,false,false,false]), (13,[false,false,false,false,false,false])])]
def bX6_clash_13 : List AOp := [(13, 1, .iconst (-1), (-1), 0, 0, []), (14, 1, .ireturn, 0, 0, 0, [])]
def bX6_clash_15 : List AOp := [(15, 1, .iconst 0, 0, 0, 0, []), (16, 1, .istore_n 3, 0, 3, 0, []), (17, 1, .iconst 0, 0, 0, 0, []), (18, 2, .istore 4, 0, 4, 0, []), (20, 0, .nop, 0, 0, 0, [(20,[true,true,true,true,true,false])])]
def bX6_clash_20 : List AOp := [(20, 2, .iload 4, 0, 4, 0, []), (22, 1, .aload_n 0, 0, 0, 0, []), (23, 3, .getfield 95, 0, 6, 6, []), (26, 3, .if_icmp .ge 80, 0, 0, 0, [(106,[false,false,false,false,false,false]), (29,[true,true,true,true,true,false])])]
def bX6_clash_29 : List AOp := [(29, 2, .iload 4, 0, 4, 0, []), (31, 1, .iconst 1, 1, 0, 0, []), (32, 1, .iadd, 0, 0, 0, []), (33, 2, .istore 5, 0, 5, 0, []), (35, 0, .nop, 0, 0, 0, [(35,[true,true,true,true,true,true])])]
def bX6_clash_35 : List AOp := [(35, 2, .iload 5, 0, 5, 0, []), (37, 1, .aload_n 0, 0, 0, 0, []), (38, 3, .getfield 95, 0, 6, 6, []), (41, 3, .if_icmp .ge 59, 0, 0, 0, [(100,[true,true,true,true,true,false]), (44,[true,true,true,true,true,true])])]
def bX6_clash_44 : List AOp := [(44, 1, .aload_n 0, 0, 0, 0, []), (45, 2, .iload 4, 0, 4, 0, []), (47, 2, .iload 5, 0, 5, 0, []), (49, 3, .invokevirtual 177, 0, 97, 3, [(6,[])]), (52, 3, .ifCond .ne 6, 0, 0, 0, [(58,[true,true,true,true,true,true]), (55,[true,true,true,true,true,true])])]
def bX6_clash_55 : List AOp := [(55, 3, .goto 39, 0, 0, 0, [(94,[true,true,true,true,true,true])])]
def bX6_clash_58 : List AOp := [(58, 1, .iload_n 3, 0, 3, 0, []), (59, 1, .iload_n 1, 0, 1, 0, []), (60, 3, .if_icmp .ne 31, 0, 0, 0, [(91,[true,true,true,true,true,true]), (63,[true,false,true,false,true,true])])]
def bX6_clash_63 : List AOp := [(63, 1, .iload_n 2, 0, 2, 0, []), (64, 3, .ifCond .ne 8, 0, 0, 0, [(72,[true,false,true,false,true,true]), (67,[false,false,false,false,true,false])])]
def bX6_clash_67 : List AOp := [(67, 2, .iload 4, 0, 4, 0, []), (69, 3, .goto 21, 0, 0, 0, [(90,[false,false,false,false,false,false])])]
def bX6_clash_72 : List AOp := [(72, 1, .iload_n 2, 0, 2, 0, []), (73, 1, .iconst 1, 1, 0, 0, []), (74, 3, .if_icmp .ne 8, 0, 0, 0, [(82,[true,false,false,false,true,true]), (77,[false,false,false,false,false,true])])]
def bX6_clash_77 : List AOp := [(77, 2, .iload 5, 0, 5, 0, []), (79, 3, .goto 11, 0, 0, 0, [(90,[false,false,false,false,false,false])])]
def bX6_clash_82 : List AOp := [(82, 1, .aload_n 0, 0, 0, 0, []), (83, 2, .iload 4, 0, 4, 0, []), (85, 2, .iload 5, 0, 5, 0, []), (87, 3, .invokevirtual 177, 0, 97, 3, [(6,[])]), (90, 0, .nop, 0, 0, 0, [(90,[false,false,false,false,false,false])])]
def bX6_clash_90 : List AOp := [(90, 1, .ireturn, 0, 0, 0, [])]
def bX6_clash_91 : List AOp := [(91, 3, .iinc 3 1, 1, 3, 0, []), (94, 0, .nop, 0, 0, 0, [(94,[true,true,true,true,true,true])])]
def bX6_clash_94 : List AOp := [(94, 3, .iinc 5 1, 1, 5, 0, []), (97, 3, .goto (-62), 0, 0, 0, [(35,[true,true,true,true,true,true])])]
def bX6_clash_100 : List AOp := [(100, 3, .iinc 4 1, 1, 4, 0, []), (103, 3, .goto (-83), 0, 0, 0, [(20,[true,true,true,true,true,false])])]
def bX6_clash_106 : List AOp := [(106, 1, .iconst (-1), (-1), 0, 0, []), (107, 1, .ireturn, 0, 0, 0, [])]
def blX6_clash : List (Nat × List AOp) := [(0, bX6_clash_0), (4, bX6_clash_4), (13, bX6_clash_13), (15, bX6_clash_15), (20, bX6_clash_20), (29, bX6_clash_29), (35, bX6_clash_35), (44, bX6_clash_44), (55, bX6_clash_55), (58, bX6_clash_58), (63, bX6_clash_63), (67, bX6_clash_67), (72, bX6_clash_72), (77, bX6_clash_77), (82, bX6_clash_82), (90, bX6_clash_90), (91, bX6_clash_91), (94, bX6_clash_94), (100, bX6_clash_100), (106, bX6_clash_106)]
def bX6_court_0 : List AOp := [(0, 1, .aload_n 0, 0, 0, 0, []), (1, 1, .iload_n 1, 0, 1, 0, []), (2, 3, .invokevirtual 115, 0, 65, 2, [(6,[])]), (5, 3, .ifCond .eq 12, 0, 0, 0, [(17,[false,false,false]), (8,[true,true,true])])]
def bX6_court_8 : List AOp := [(8, 1, .iload_n 2, 0, 2, 0, []), (9, 1, .iconst 0, 0, 0, 0, []), (10, 1, .iconst 2, 2, 0, 0, []), (11, 3, .invokestatic 91, 0, 62, 3, []), (14, 3, .ifCond .ne 5, 0, 0, 0, [(19,[true,true,true]), (17,[false,false,false])])]
def bX6_court_17 : List AOp := [(17, 1, .iconst 0, 0, 0, 0, []), (18, 1, .ireturn, 0, 0, 0, [])]
def bX6_court_19 : List AOp := [(19, 1, .aload_n 0, 0, 0, 0, []), (20, 3, .getfield 66, 0, 6, 23, []), (23, 1, .iload_n 1, 0, 1, 0, []), (24, 1, .iload_n 2, 0, 2, 0, []), (25, 1, .iastore, 0, 0, 0, []), (26, 1, .iconst 1, 1, 0, 0, []), (27, 1, .ireturn, 0, 0, 0, [])]
def blX6_court : List (Nat × List AOp) := [(0, bX6_court_0), (8, bX6_court_8), (17, bX6_court_17), (19, bX6_court_19)]
def bX6_otherwise_0 : List AOp := [(0, 1, .iload_n 1, 0, 1, 0, []), (1, 3, .ifCond .ge 5, 0, 0, 0, [(6,[true,true,false,false]), (4,[false,false,false,false])])]
def bX6_otherwise_4 : List AOp := [(4, 1, .iconst (-1), (-1), 0, 0, []), (5, 1, .ireturn, 0, 0, 0, [])]
def bX6_otherwise_6 : List AOp := [(6, 1, .iconst 0, 0, 0, 0, []), (7, 1, .istore_n 2, 0, 2, 0, []), (8, 1, .iconst 0, 0, 0, 0, []), (9, 1, .istore_n 3, 0, 3, 0, []), (10, 0, .nop, 0, 0, 0, [(10,[true,true,true,true])])]
def bX6_otherwise_10 : List AOp := [(10, 1, .iload_n 3, 0, 3, 0, []), (11, 1, .aload_n 0, 0, 0, 0, []), (12, 3, .getfield 95, 0, 6, 6, []), (15, 3, .if_icmp .ge 44, 0, 0, 0, [(59,[false,false,false,false]), (18,[true,true,true,true])])]
def bX6_otherwise_18 : List AOp := [(18, 1, .aload_n 0, 0, 0, 0, []), (19, 3, .getfield 66, 0, 6, 23, []), (22, 1, .iload_n 3, 0, 3, 0, []), (23, 1, .iaload, 0, 0, 0, []), (24, 1, .aload_n 0, 0, 0, 0, []), (25, 1, .iload_n 3, 0, 3, 0, []), (26, 3, .invokevirtual 164, 0, 87, 2, [(6,[])]), (29, 3, .ifCond .eq 7, 0, 0, 0, [(36,[true,true,true,true]), (32,[true,true,true,true])])]
def bX6_otherwise_32 : List AOp := [(32, 1, .iconst 2, 2, 0, 0, []), (33, 3, .goto 4, 0, 0, 0, [(37,[true,true,true,true])])]
def bX6_otherwise_36 : List AOp := [(36, 1, .iconst 1, 1, 0, 0, []), (37, 0, .nop, 0, 0, 0, [(37,[true,true,true,true])])]
def bX6_otherwise_37 : List AOp := [(37, 3, .if_icmp .eq 6, 0, 0, 0, [(43,[true,true,true,true]), (40,[true,true,true,true])])]
def bX6_otherwise_40 : List AOp := [(40, 3, .goto 13, 0, 0, 0, [(53,[true,true,true,true])])]
def bX6_otherwise_43 : List AOp := [(43, 1, .iload_n 2, 0, 2, 0, []), (44, 1, .iload_n 1, 0, 1, 0, []), (45, 3, .if_icmp .ne 5, 0, 0, 0, [(50,[true,true,true,true]), (48,[false,false,false,true])])]
def bX6_otherwise_48 : List AOp := [(48, 1, .iload_n 3, 0, 3, 0, []), (49, 1, .ireturn, 0, 0, 0, [])]
def bX6_otherwise_50 : List AOp := [(50, 3, .iinc 2 1, 1, 2, 0, []), (53, 0, .nop, 0, 0, 0, [(53,[true,true,true,true])])]
def bX6_otherwise_53 : List AOp := [(53, 3, .iinc 3 1, 1, 3, 0, []), (56, 3, .goto (-46), 0, 0, 0, [(10,[true,true,true,true])])]
def bX6_otherwise_59 : List AOp := [(59, 1, .iconst (-1), (-1), 0, 0, []), (60, 1, .ireturn, 0, 0, 0, [])]
def blX6_otherwise : List (Nat × List AOp) := [(0, bX6_otherwise_0), (4, bX6_otherwise_4), (6, bX6_otherwise_6), (10, bX6_otherwise_10), (18, bX6_otherwise_18), (32, bX6_otherwise_32), (36, bX6_otherwise_36), (37, bX6_otherwise_37), (40, bX6_otherwise_40), (43, bX6_otherwise_43), (48, bX6_otherwise_48), (50, bX6_otherwise_50), (53, bX6_otherwise_53), (59, bX6_otherwise_59)]
def bX6_look_0 : List AOp := [(0, 1, .aload_n 0, 0, 0, 0, []), (1, 1, .iload_n 1, 0, 1, 0, []), (2, 3, .invokevirtual 115, 0, 65, 2, [(6,[])]), (5, 3, .ifCond .ne 5, 0, 0, 0, [(10,[true,true,true]), (8,[false,false,false])])]
def bX6_look_8 : List AOp := [(8, 1, .iconst (-1), (-1), 0, 0, []), (9, 1, .ireturn, 0, 0, 0, [])]
def bX6_look_10 : List AOp := [(10, 1, .iload_n 2, 0, 2, 0, []), (11, 53, .tableswitch 154 0 9 #[53, 60, 67, 74, 81, 88, 95, 102, 109, 109], 0, 0, 0, [(64,[true,true,false]), (71,[true,true,false]), (78,[true,true,false]), (85,[true,true,false]), (92,[true,true,false]), (99,[true,true,false]), (106,[true,true,false]), (113,[true,true,false]), (120,[true,true,true]), (120,[true,true,true]), (165,[false,false,false])])]
def bX6_look_64 : List AOp := [(64, 1, .aload_n 0, 0, 0, 0, []), (65, 3, .getfield 36, 0, 6, 13, []), (68, 1, .iload_n 1, 0, 1, 0, []), (69, 1, .iaload, 0, 0, 0, []), (70, 1, .ireturn, 0, 0, 0, [])]
def bX6_look_71 : List AOp := [(71, 1, .aload_n 0, 0, 0, 0, []), (72, 3, .getfield 39, 0, 6, 14, []), (75, 1, .iload_n 1, 0, 1, 0, []), (76, 1, .iaload, 0, 0, 0, []), (77, 1, .ireturn, 0, 0, 0, [])]
def bX6_look_78 : List AOp := [(78, 1, .aload_n 0, 0, 0, 0, []), (79, 3, .getfield 42, 0, 6, 15, []), (82, 1, .iload_n 1, 0, 1, 0, []), (83, 1, .iaload, 0, 0, 0, []), (84, 1, .ireturn, 0, 0, 0, [])]
def bX6_look_85 : List AOp := [(85, 1, .aload_n 0, 0, 0, 0, []), (86, 3, .getfield 45, 0, 6, 16, []), (89, 1, .iload_n 1, 0, 1, 0, []), (90, 1, .iaload, 0, 0, 0, []), (91, 1, .ireturn, 0, 0, 0, [])]
def bX6_look_92 : List AOp := [(92, 1, .aload_n 0, 0, 0, 0, []), (93, 3, .getfield 66, 0, 6, 23, []), (96, 1, .iload_n 1, 0, 1, 0, []), (97, 1, .iaload, 0, 0, 0, []), (98, 1, .ireturn, 0, 0, 0, [])]
def bX6_look_99 : List AOp := [(99, 1, .aload_n 0, 0, 0, 0, []), (100, 3, .getfield 54, 0, 6, 19, []), (103, 1, .iload_n 1, 0, 1, 0, []), (104, 1, .iaload, 0, 0, 0, []), (105, 1, .ireturn, 0, 0, 0, [])]
def bX6_look_106 : List AOp := [(106, 1, .aload_n 0, 0, 0, 0, []), (107, 3, .getfield 60, 0, 6, 21, []), (110, 1, .iload_n 1, 0, 1, 0, []), (111, 1, .iaload, 0, 0, 0, []), (112, 1, .ireturn, 0, 0, 0, [])]
def bX6_look_113 : List AOp := [(113, 1, .aload_n 0, 0, 0, 0, []), (114, 3, .getfield 63, 0, 6, 22, []), (117, 1, .iload_n 1, 0, 1, 0, []), (118, 1, .iaload, 0, 0, 0, []), (119, 1, .ireturn, 0, 0, 0, [])]
def bX6_look_120 : List AOp := [(120, 1, .aload_n 0, 0, 0, 0, []), (121, 3, .invokevirtual 161, 0, 82, 1, [(6,[])]), (124, 1, .aload_n 0, 0, 0, 0, []), (125, 3, .getfield 69, 0, 6, 24, []), (128, 1, .iload_n 1, 0, 1, 0, []), (129, 1, .iaload, 0, 0, 0, []), (130, 1, .aload_n 0, 0, 0, 0, []), (131, 3, .getfield 72, 0, 6, 25, []), (134, 1, .iload_n 1, 0, 1, 0, []), (135, 1, .iaload, 0, 0, 0, []), (136, 3, .if_icmp .le 7, 0, 0, 0, [(143,[true,true,true]), (139,[false,false,false])])]
def bX6_look_139 : List AOp := [(139, 1, .iconst (-1), (-1), 0, 0, []), (140, 3, .goto 24, 0, 0, 0, [(164,[false,false,false])])]
def bX6_look_143 : List AOp := [(143, 1, .iload_n 2, 0, 2, 0, []), (144, 2, .bipush 8, 8, 0, 0, []), (146, 3, .if_icmp .ne 12, 0, 0, 0, [(158,[true,true,false]), (149,[true,true,false])])]
def bX6_look_149 : List AOp := [(149, 1, .aload_n 0, 0, 0, 0, []), (150, 3, .getfield 69, 0, 6, 24, []), (153, 1, .iload_n 1, 0, 1, 0, []), (154, 1, .iaload, 0, 0, 0, []), (155, 3, .goto 9, 0, 0, 0, [(164,[false,false,false])])]
def bX6_look_158 : List AOp := [(158, 1, .aload_n 0, 0, 0, 0, []), (159, 3, .getfield 72, 0, 6, 25, []), (162, 1, .iload_n 1, 0, 1, 0, []), (163, 1, .iaload, 0, 0, 0, []), (164, 0, .nop, 0, 0, 0, [(164,[false,false,false])])]
def bX6_look_164 : List AOp := [(164, 1, .ireturn, 0, 0, 0, [])]
def bX6_look_165 : List AOp := [(165, 1, .iconst (-1), (-1), 0, 0, []), (166, 1, .ireturn, 0, 0, 0, [])]
def blX6_look : List (Nat × List AOp) := [(0, bX6_look_0), (8, bX6_look_8), (10, bX6_look_10), (64, bX6_look_64), (71, bX6_look_71), (78, bX6_look_78), (85, bX6_look_85), (92, bX6_look_92), (99, bX6_look_99), (106, bX6_look_106), (113, bX6_look_113), (120, bX6_look_120), (139, bX6_look_139), (143, bX6_look_143), (149, bX6_look_149), (158, bX6_look_158), (164, bX6_look_164), (165, bX6_look_165)]
def bX6_count_0 : List AOp := [(0, 1, .iconst 0, 0, 0, 0, []), (1, 1, .istore_n 2, 0, 2, 0, []), (2, 1, .iload_n 1, 0, 1, 0, []), (3, 45, .tableswitch 101 0 7 #[45, 50, 55, 60, 65, 70, 78, 83], 0, 0, 0, [(48,[true,false,false]), (53,[true,false,false]), (58,[true,false,false]), (63,[true,false,false]), (68,[true,false,false]), (73,[true,false,false]), (81,[true,false,false]), (86,[true,false,true]), (104,[false,false,false])])]
def bX6_count_48 : List AOp := [(48, 1, .aload_n 0, 0, 0, 0, []), (49, 3, .getfield 98, 0, 6, 3, []), (52, 1, .ireturn, 0, 0, 0, [])]
def bX6_count_53 : List AOp := [(53, 1, .aload_n 0, 0, 0, 0, []), (54, 3, .getfield 109, 0, 6, 4, []), (57, 1, .ireturn, 0, 0, 0, [])]
def bX6_count_58 : List AOp := [(58, 1, .aload_n 0, 0, 0, 0, []), (59, 3, .getfield 112, 0, 6, 5, []), (62, 1, .ireturn, 0, 0, 0, [])]
def bX6_count_63 : List AOp := [(63, 1, .aload_n 0, 0, 0, 0, []), (64, 3, .getfield 95, 0, 6, 6, []), (67, 1, .ireturn, 0, 0, 0, [])]
def bX6_count_68 : List AOp := [(68, 1, .aload_n 0, 0, 0, 0, []), (69, 3, .getfield 13, 0, 6, 2, []), (72, 1, .ireturn, 0, 0, 0, [])]
def bX6_count_73 : List AOp := [(73, 1, .aload_n 0, 0, 0, 0, []), (74, 3, .invokevirtual 181, 0, 85, 1, [(6,[])]), (77, 3, .invokestatic 146, 0, 81, 1, []), (80, 1, .ireturn, 0, 0, 0, [])]
def bX6_count_81 : List AOp := [(81, 1, .aload_n 0, 0, 0, 0, []), (82, 3, .getfield 167, 0, 6, 1, []), (85, 1, .ireturn, 0, 0, 0, [])]
def bX6_count_86 : List AOp := [(86, 1, .aload_n 0, 0, 0, 0, []), (87, 1, .iload_n 2, 0, 2, 0, []), (88, 1, .iconst 0, 0, 0, 0, []), (89, 3, .invokevirtual 184, 0, 98, 3, [(6,[])]), (92, 1, .iconst (-1), (-1), 0, 0, []), (93, 3, .if_icmp .eq 9, 0, 0, 0, [(102,[false,false,true]), (96,[true,false,true])])]
def bX6_count_96 : List AOp := [(96, 3, .iinc 2 1, 1, 2, 0, []), (99, 3, .goto (-13), 0, 0, 0, [(86,[true,false,true])])]
def bX6_count_102 : List AOp := [(102, 1, .iload_n 2, 0, 2, 0, []), (103, 1, .ireturn, 0, 0, 0, [])]
def bX6_count_104 : List AOp := [(104, 1, .iconst (-1), (-1), 0, 0, []), (105, 1, .ireturn, 0, 0, 0, [])]
def blX6_count : List (Nat × List AOp) := [(0, bX6_count_0), (48, bX6_count_48), (53, bX6_count_53), (58, bX6_count_58), (63, bX6_count_63), (68, bX6_count_68), (73, bX6_count_73), (81, bX6_count_81), (86, bX6_count_86), (96, bX6_count_96), (102, bX6_count_102), (104, bX6_count_104)]
def bJ6_compare_0 : List AOp := [(0, 1, .iload_n 0, 0, 0, 0, []), (1, 1, .iload_n 1, 0, 1, 0, []), (2, 3, .if_icmp .ge 7, 0, 0, 0, [(9,[true,true]), (5,[false,false])])]
def bJ6_compare_5 : List AOp := [(5, 1, .iconst (-1), (-1), 0, 0, []), (6, 3, .goto 13, 0, 0, 0, [(19,[false,false])])]
def bJ6_compare_9 : List AOp := [(9, 1, .iload_n 0, 0, 0, 0, []), (10, 1, .iload_n 1, 0, 1, 0, []), (11, 3, .if_icmp .ne 7, 0, 0, 0, [(18,[false,false]), (14,[false,false])])]
def bJ6_compare_14 : List AOp := [(14, 1, .iconst 0, 0, 0, 0, []), (15, 3, .goto 4, 0, 0, 0, [(19,[false,false])])]
def bJ6_compare_18 : List AOp := [(18, 1, .iconst 1, 1, 0, 0, []), (19, 0, .nop, 0, 0, 0, [(19,[false,false])])]
def bJ6_compare_19 : List AOp := [(19, 1, .ireturn, 0, 0, 0, [])]
def blJ6_compare : List (Nat × List AOp) := [(0, bJ6_compare_0), (5, bJ6_compare_5), (9, bJ6_compare_9), (14, bJ6_compare_14), (18, bJ6_compare_18), (19, bJ6_compare_19)]
def bJ6_bitCount_0 : List AOp := [(0, 1, .iload_n 0, 0, 0, 0, []), (1, 1, .iload_n 0, 0, 0, 0, []), (2, 1, .iconst 1, 1, 0, 0, []), (3, 1, .iushr, 0, 0, 0, []), (4, 3, .ldc_w 265, 1431655765, 0, 0, []), (7, 1, .iand, 0, 0, 0, []), (8, 1, .isub, 0, 0, 0, []), (9, 1, .istore_n 0, 0, 0, 0, []), (10, 1, .iload_n 0, 0, 0, 0, []), (11, 3, .ldc_w 266, 858993459, 0, 0, []), (14, 1, .iand, 0, 0, 0, []), (15, 1, .iload_n 0, 0, 0, 0, []), (16, 1, .iconst 2, 2, 0, 0, []), (17, 1, .iushr, 0, 0, 0, []), (18, 3, .ldc_w 266, 858993459, 0, 0, []), (21, 1, .iand, 0, 0, 0, []), (22, 1, .iadd, 0, 0, 0, []), (23, 1, .istore_n 0, 0, 0, 0, []), (24, 1, .iload_n 0, 0, 0, 0, []), (25, 1, .iload_n 0, 0, 0, 0, []), (26, 1, .iconst 4, 4, 0, 0, []), (27, 1, .iushr, 0, 0, 0, []), (28, 1, .iadd, 0, 0, 0, []), (29, 3, .ldc_w 267, 252645135, 0, 0, []), (32, 1, .iand, 0, 0, 0, []), (33, 1, .istore_n 0, 0, 0, 0, []), (34, 1, .iload_n 0, 0, 0, 0, []), (35, 1, .iload_n 0, 0, 0, 0, []), (36, 2, .bipush 8, 8, 0, 0, []), (38, 1, .iushr, 0, 0, 0, []), (39, 1, .iadd, 0, 0, 0, []), (40, 1, .istore_n 0, 0, 0, 0, []), (41, 1, .iload_n 0, 0, 0, 0, []), (42, 1, .iload_n 0, 0, 0, 0, []), (43, 2, .bipush 16, 16, 0, 0, []), (45, 1, .iushr, 0, 0, 0, []), (46, 1, .iadd, 0, 0, 0, []), (47, 1, .istore_n 0, 0, 0, 0, []), (48, 1, .iload_n 0, 0, 0, 0, []), (49, 2, .bipush 63, 63, 0, 0, []), (51, 1, .iand, 0, 0, 0, []), (52, 1, .ireturn, 0, 0, 0, [])]
def blJ6_bitCount : List (Nat × List AOp) := [(0, bJ6_bitCount_0)]
def mT : List (MethodName × ByteArray × Nat × Option FieldType × Nat × List (Nat × List AOp)) := [(yX0_isPlace, cX0_isPlace, 2, (some .boolean), 0, blX0_isPlace),
  (yX0_of, cX0_of, 3, (some .int), 0, blX0_of),
  (yX0_many, cX0_many, 4, (some .int), 0, blX0_many),
  (yX0_put, cX0_put, 4, (some .boolean), 0, blX0_put),
  (yX0_sharingHand, cX0_sharingHand, 4, (some .int), 0, blX0_sharingHand),
  (yX1_lightest, cX1_lightest, 2, (some .int), 1, blX1_lightest),
  (yX1_weigh, cX1_weigh, 4, (some .int), 1, blX1_weigh),
  (yX1_forge, cX1_forge, 9, none, 1, blX1_forge),
  (yX1_keepBetter, cX1_keepBetter, 3, none, 1, blX1_keepBetter),
  (yX2_areYears, cX2_areYears, 2, (some .boolean), 2, blX2_areYears),
  (yX2_has, cX2_has, 2, (some .boolean), 2, blX2_has),
  (yX2_add, cX2_add, 3, (some .int), 2, blX2_add),
  (yX2_change, cX2_change, 4, (some .boolean), 2, blX2_change),
  (yX2_latestStart, cX2_latestStart, 5, (some .int), 2, blX2_latestStart),
  (yX2_earliestEnd, cX2_earliestEnd, 5, (some .int), 2, blX2_earliestEnd),
  (yX3_roundsToBreak, cX3_roundsToBreak, 3, (some .int), 3, blX3_roundsToBreak),
  (yX3_firstBroken, cX3_firstBroken, 3, (some .int), 3, blX3_firstBroken),
  (yX3_lowerOnce, cX3_lowerOnce, 7, (some .boolean), 3, blX3_lowerOnce),
  (yX3_raiseOnce, cX3_raiseOnce, 7, (some .boolean), 3, blX3_raiseOnce),
  (yX3_conflictIn, cX3_conflictIn, 5, (some .int), 3, blX3_conflictIn),
  (yX3_quarrelIn, cX3_quarrelIn, 6, (some .int), 3, blX3_quarrelIn),
  (yX3_keepYears, cX3_keepYears, 3, none, 3, blX3_keepYears),
  (yX4_putBytes, cX4_putBytes, 3, none, 4, blX4_putBytes),
  (yX4_take, cX4_take, 4, (some .boolean), 4, blX4_take),
  (yX4_findModel, cX4_findModel, 3, none, 4, blX4_findModel),
  (yX4_compareWith, cX4_compareWith, 6, none, 4, blX4_compareWith),
  (yX4_alike, cX4_alike, 7, (some .int), 4, blX4_alike),
  (yX5_person, cX5_person, 3, (some .int), 5, blX5_person),
  (yX5_lived, cX5_lived, 4, (some .boolean), 5, blX5_lived),
  (yX5_formula, cX5_formula, 3, (some .int), 5, blX5_formula),
  (yX5_seal, cX5_seal, 3, (some .int), 5, blX5_seal),
  (yX5_span, cX5_span, 2, (some .boolean), 5, blX5_span),
  (yX5_deed, cX5_deed, 5, (some .int), 5, blX5_deed),
  (yX5_mark, cX5_mark, 4, (some .boolean), 5, blX5_mark),
  (yX5_agree, cX5_agree, 2, (some .int), 5, blX5_agree),
  (yX5_forged, cX5_forged, 1, (some .int), 5, blX5_forged),
  (yX5_weight, cX5_weight, 2, (some .int), 5, blX5_weight),
  (yX5_year, cX5_year, 3, (some .int), 5, blX5_year),
  (yX5_quarrel, cX5_quarrel, 1, (some .int), 5, blX5_quarrel),
  (yX5_sure, cX5_sure, 6, (some .int), 5, blX5_sure),
  (yX5_feed, cX5_feed, 6, (some .int), 5, blX5_feed),
  (yX5_words, cX5_words, 3, (some .boolean), 5, blX5_words),
  (yX5_model, cX5_model, 3, (some .int), 5, blX5_model),
  (yX5_claim, cX5_claim, 4, (some .boolean), 5, blX5_claim),
  (yX5_clash, cX5_clash, 7, (some .int), 5, blX5_clash),
  (yX5_court, cX5_court, 3, (some .boolean), 5, blX5_court),
  (yX5_otherwise, cX5_otherwise, 4, (some .int), 5, blX5_otherwise),
  (yX5_look, cX5_look, 3, (some .int), 5, blX5_look),
  (yX5_count, cX5_count, 2, (some .int), 5, blX5_count),
  (yX5_holds, cX5_holds, 2, (some .boolean), 5, blX5_holds),
  (yX5_allDeeds, cX5_allDeeds, 1, (some .int), 5, blX5_allDeeds),
  (yX5_areDeeds, cX5_areDeeds, 2, (some .boolean), 5, blX5_areDeeds),
  (yX5_isTrue, cX5_isTrue, 2, (some .boolean), 5, blX5_isTrue),
  (yX5_forgedOnes, cX5_forgedOnes, 1, (some .int), 5, blX5_forgedOnes),
  (yX5_canBeMarked, cX5_canBeMarked, 3, (some .boolean), 5, blX5_canBeMarked),
  (yX5_ownFirst, cX5_ownFirst, 3, (some .int), 5, blX5_ownFirst),
  (yX5_ownLast, cX5_ownLast, 3, (some .int), 5, blX5_ownLast),
  (yX5_hasOwnYear, cX5_hasOwnYear, 2, (some .boolean), 5, blX5_hasOwnYear),
  (yX5_settle, cX5_settle, 2, none, 5, blX5_settle),
  (yX5_disputed, cX5_disputed, 3, (some .int), 5, blX5_disputed),
  (yX5_clashes, cX5_clashes, 4, (some .int), 5, blX5_clashes),
  (yX5_isMisjudged, cX5_isMisjudged, 2, (some .boolean), 5, blX5_isMisjudged),
  (yX6_lies, cX6_lies, 3, (some .boolean), 6, blX6_lies),
  (yX6_isSpan, cX6_isSpan, 2, (some .boolean), 6, blX6_isSpan),
  (yX6_has, cX6_has, 2, (some .boolean), 6, blX6_has),
  (yX6_isDeed, cX6_isDeed, 2, (some .boolean), 6, blX6_isDeed),
  (yX6_person, cX6_person, 3, (some .int), 6, blX6_person),
  (yX6_lived, cX6_lived, 4, (some .boolean), 6, blX6_lived),
  (yX6_formula, cX6_formula, 3, (some .int), 6, blX6_formula),
  (yX6_seal, cX6_seal, 3, (some .int), 6, blX6_seal),
  (yX6_span, cX6_span, 2, (some .boolean), 6, blX6_span),
  (yX6_deed, cX6_deed, 4, (some .int), 6, blX6_deed),
  (yX6_manyOf, cX6_manyOf, 2, (some .int), 6, blX6_manyOf),
  (yX6_hasMark, cX6_hasMark, 5, (some .boolean), 6, blX6_hasMark),
  (yX6_mark, cX6_mark, 4, (some .boolean), 6, blX6_mark),
  (yX6_narrows, cX6_narrows, 4, none, 6, blX6_narrows),
  (yX6_owns, cX6_owns, 5, none, 6, blX6_owns),
  (yX6_ups, cX6_ups, 6, none, 6, blX6_ups),
  (yX6_downs, cX6_downs, 6, none, 6, blX6_downs),
  (yX6_agrees, cX6_agrees, 3, (some .boolean), 6, blX6_agrees),
  (yX6_weightOf, cX6_weightOf, 4, (some .int), 6, blX6_weightOf),
  (yX6_sizeOf, cX6_sizeOf, 3, (some .int), 6, blX6_sizeOf),
  (yX6_works, cX6_works, 4, none, 6, blX6_works),
  (yX6_isSet, cX6_isSet, 2, (some .boolean), 6, blX6_isSet),
  (yX6_agree, cX6_agree, 2, (some .int), 6, blX6_agree),
  (yX6_forged, cX6_forged, 1, (some .int), 6, blX6_forged),
  (yX6_weight, cX6_weight, 2, (some .int), 6, blX6_weight),
  (yX6_isTrue, cX6_isTrue, 2, (some .boolean), 6, blX6_isTrue),
  (yX6_year, cX6_year, 3, (some .int), 6, blX6_year),
  (yX6_quarrel, cX6_quarrel, 1, (some .int), 6, blX6_quarrel),
  (yX6_sure, cX6_sure, 6, (some .int), 6, blX6_sure),
  (yX6_push, cX6_push, 3, none, 6, blX6_push),
  (yX6_feed, cX6_feed, 6, (some .int), 6, blX6_feed),
  (yX6_words, cX6_words, 4, (some .boolean), 6, blX6_words),
  (yX6_alike, cX6_alike, 6, (some .int), 6, blX6_alike),
  (yX6_model, cX6_model, 11, (some .int), 6, blX6_model),
  (yX6_claim, cX6_claim, 4, (some .boolean), 6, blX6_claim),
  (yX6_both, cX6_both, 3, (some .int), 6, blX6_both),
  (yX6_clash, cX6_clash, 6, (some .int), 6, blX6_clash),
  (yX6_court, cX6_court, 3, (some .boolean), 6, blX6_court),
  (yX6_otherwise, cX6_otherwise, 4, (some .int), 6, blX6_otherwise),
  (yX6_look, cX6_look, 3, (some .int), 6, blX6_look),
  (yX6_count, cX6_count, 3, (some .int), 6, blX6_count),
  (yJ6_compare_7cf53, cJ6_compare_7cf53, 2, (some .int), 7, blJ6_compare),
  (yJ6_bitCount_0f7a4, cJ6_bitCount_0f7a4, 1, (some .int), 7, blJ6_bitCount)]
abbrev kX0_isPlace : Nat := 0
abbrev kX0_of : Nat := 1
abbrev kX0_many : Nat := 2
abbrev kX0_put : Nat := 3
abbrev kX0_sharingHand : Nat := 4
abbrev kX1_lightest : Nat := 5
abbrev kX1_weigh : Nat := 6
abbrev kX1_forge : Nat := 7
abbrev kX1_keepBetter : Nat := 8
abbrev kX2_areYears : Nat := 9
abbrev kX2_has : Nat := 10
abbrev kX2_add : Nat := 11
abbrev kX2_change : Nat := 12
abbrev kX2_latestStart : Nat := 13
abbrev kX2_earliestEnd : Nat := 14
abbrev kX3_roundsToBreak : Nat := 15
abbrev kX3_firstBroken : Nat := 16
abbrev kX3_lowerOnce : Nat := 17
abbrev kX3_raiseOnce : Nat := 18
abbrev kX3_conflictIn : Nat := 19
abbrev kX3_quarrelIn : Nat := 20
abbrev kX3_keepYears : Nat := 21
abbrev kX4_putBytes : Nat := 22
abbrev kX4_take : Nat := 23
abbrev kX4_findModel : Nat := 24
abbrev kX4_compareWith : Nat := 25
abbrev kX4_alike : Nat := 26
abbrev kX5_person : Nat := 27
abbrev kX5_lived : Nat := 28
abbrev kX5_formula : Nat := 29
abbrev kX5_seal : Nat := 30
abbrev kX5_span : Nat := 31
abbrev kX5_deed : Nat := 32
abbrev kX5_mark : Nat := 33
abbrev kX5_agree : Nat := 34
abbrev kX5_forged : Nat := 35
abbrev kX5_weight : Nat := 36
abbrev kX5_year : Nat := 37
abbrev kX5_quarrel : Nat := 38
abbrev kX5_sure : Nat := 39
abbrev kX5_feed : Nat := 40
abbrev kX5_words : Nat := 41
abbrev kX5_model : Nat := 42
abbrev kX5_claim : Nat := 43
abbrev kX5_clash : Nat := 44
abbrev kX5_court : Nat := 45
abbrev kX5_otherwise : Nat := 46
abbrev kX5_look : Nat := 47
abbrev kX5_count : Nat := 48
abbrev kX5_holds : Nat := 49
abbrev kX5_allDeeds : Nat := 50
abbrev kX5_areDeeds : Nat := 51
abbrev kX5_isTrue : Nat := 52
abbrev kX5_forgedOnes : Nat := 53
abbrev kX5_canBeMarked : Nat := 54
abbrev kX5_ownFirst : Nat := 55
abbrev kX5_ownLast : Nat := 56
abbrev kX5_hasOwnYear : Nat := 57
abbrev kX5_settle : Nat := 58
abbrev kX5_disputed : Nat := 59
abbrev kX5_clashes : Nat := 60
abbrev kX5_isMisjudged : Nat := 61
abbrev kX6_lies : Nat := 62
abbrev kX6_isSpan : Nat := 63
abbrev kX6_has : Nat := 64
abbrev kX6_isDeed : Nat := 65
abbrev kX6_person : Nat := 66
abbrev kX6_lived : Nat := 67
abbrev kX6_formula : Nat := 68
abbrev kX6_seal : Nat := 69
abbrev kX6_span : Nat := 70
abbrev kX6_deed : Nat := 71
abbrev kX6_manyOf : Nat := 72
abbrev kX6_hasMark : Nat := 73
abbrev kX6_mark : Nat := 74
abbrev kX6_narrows : Nat := 75
abbrev kX6_owns : Nat := 76
abbrev kX6_ups : Nat := 77
abbrev kX6_downs : Nat := 78
abbrev kX6_agrees : Nat := 79
abbrev kX6_weightOf : Nat := 80
abbrev kX6_sizeOf : Nat := 81
abbrev kX6_works : Nat := 82
abbrev kX6_isSet : Nat := 83
abbrev kX6_agree : Nat := 84
abbrev kX6_forged : Nat := 85
abbrev kX6_weight : Nat := 86
abbrev kX6_isTrue : Nat := 87
abbrev kX6_year : Nat := 88
abbrev kX6_quarrel : Nat := 89
abbrev kX6_sure : Nat := 90
abbrev kX6_push : Nat := 91
abbrev kX6_feed : Nat := 92
abbrev kX6_words : Nat := 93
abbrev kX6_alike : Nat := 94
abbrev kX6_model : Nat := 95
abbrev kX6_claim : Nat := 96
abbrev kX6_both : Nat := 97
abbrev kX6_clash : Nat := 98
abbrev kX6_court : Nat := 99
abbrev kX6_otherwise : Nat := 100
abbrev kX6_look : Nat := 101
abbrev kX6_count : Nat := 102
abbrev kJ6_compare : Nat := 103
abbrev kJ6_bitCount : Nat := 104
def cNames : List String := [RX0, RX1, RX2, RX3, RX4, RX5, RX6, RJ6, RJ9, RL]
def aFT : List (Nat × Nat × Nat × Nat × Bool) := [(0, 9, 0, 0, false), (1, 19, 1, 2, false), (1, 23, 1, 3, false), (1, 9, 1, 1, false), (1, 15, 1, 0, false), (2, 24, 2, 2, false), (2, 15, 2, 0, false), (2, 21, 2, 1, false), (3, 30, 3, 6, false), (3, 15, 3, 1, false), (3, 36, 3, 8, false), (3, 43, 3, 10, false), (3, 9, 3, 0, false), (3, 33, 3, 7, false), (3, 18, 3, 2, false), (3, 21, 3, 3, false), (3, 39, 3, 9, false), (3, 24, 3, 4, false), (3, 27, 3, 5, false), (4, 21, 4, 3, false), (4, 9, 4, 0, false), (4, 15, 4, 1, false), (4, 18, 4, 2, false), (4, 25, 4, 4, false), (4, 28, 4, 5, false), (4, 31, 4, 6, false), (4, 34, 4, 7, false), (5, 14, 5, 0, false), (5, 71, 5, 12, false), (5, 18, 5, 1, false), (5, 21, 5, 2, false), (5, 37, 5, 5, false), (5, 83, 3, 9, true), (5, 24, 5, 3, false), (5, 46, 5, 6, false), (5, 86, 1, 1, true), (5, 57, 5, 8, false), (5, 30, 5, 4, false), (5, 120, 3, 4, true), (5, 123, 3, 5, true), (5, 53, 5, 7, false), (5, 146, 4, 3, true), (5, 158, 4, 4, true), (5, 161, 4, 5, true), (5, 164, 4, 6, true), (5, 167, 4, 7, true), (5, 61, 5, 9, false), (5, 64, 5, 10, false), (5, 176, 2, 0, true), (5, 179, 2, 1, true), (5, 185, 4, 2, true), (5, 197, 2, 2, true), (5, 67, 5, 11, false), (5, 214, 3, 0, true), (5, 217, 3, 1, true), (5, 220, 3, 3, true), (5, 223, 3, 2, true), (6, 95, 6, 6, false), (6, 98, 6, 3, false), (6, 17, 6, 7, false), (6, 21, 6, 8, false), (6, 105, 6, 30, false), (6, 109, 6, 4, false), (6, 24, 6, 9, false), (6, 27, 6, 10, false), (6, 112, 6, 5, false), (6, 30, 6, 11, false), (6, 33, 6, 12, false), (6, 13, 6, 2, false), (6, 36, 6, 13, false), (6, 39, 6, 14, false), (6, 42, 6, 15, false), (6, 45, 6, 16, false), (6, 48, 6, 17, false), (6, 51, 6, 18, false), (6, 69, 6, 24, false), (6, 72, 6, 25, false), (6, 75, 6, 26, false), (6, 79, 6, 27, false), (6, 82, 6, 28, false), (6, 85, 6, 29, false), (6, 140, 6, 33, false), (6, 88, 6, 31, false), (6, 149, 6, 32, false), (6, 7, 6, 0, false), (6, 167, 6, 1, false), (6, 54, 6, 19, false), (6, 57, 6, 20, false), (6, 60, 6, 21, false), (6, 63, 6, 22, false), (6, 66, 6, 23, false)]
def aFTp : List Nat := [81, 141, 142, 139, 138, 65, 61, 63, 103, 93, 105, 108, 91, 104, 95, 97, 106, 99, 101, 162, 158, 159, 160, 164, 166, 168, 170, 189, 201, 190, 191, 194, 107, 192, 195, 140, 197, 193, 100, 102, 196, 163, 165, 167, 169, 171, 198, 199, 62, 64, 161, 66, 200, 92, 94, 98, 96, 516, 513, 517, 518, 540, 514, 519, 520, 515, 521, 522, 512, 523, 524, 525, 526, 527, 528, 534, 535, 536, 537, 538, 539, 543, 541, 542, 510, 511, 529, 530, 531, 532, 533]
def aMTp : List (List Nat) := [[37, 282, 283], [37, 285, 286, 287], [42, 296, 297], [34, 290, 289], [37, 292, 293, 294], [39, 347, 348, 349], [39, 352, 353], [34, 290, 351], [38, 355, 356, 357], [39, 375, 377, 8], [42, 379, 380], [42, 382, 297], [35, 237, 238], [35, 240, 241, 242], [35, 244, 245, 246], [34, 290, 327], [38, 363, 365, 6], [38, 368, 370, 7], [34, 290, 367], [38, 359, 360, 361], [38, 387, 389, 9], [40, 453, 455, 12], [40, 457, 459, 13], [35, 233, 234, 235], [35, 252, 241, 242], [35, 273, 245, 246], [34, 274, 276, 0], [37, 278, 279, 280], [34, 306, 308, 1], [34, 314, 316, 3], [38, 391, 360, 361], [34, 396, 398, 10], [39, 404, 348, 349], [34, 409, 411, 11], [34, 310, 312, 2], [38, 418, 419, 420], [37, 322, 286, 287], [34, 413, 290], [40, 432, 433, 434], [40, 440, 441, 442], [40, 449, 450, 451], [34, 470, 472, 14], [34, 482, 484, 15], [37, 490, 293, 294], [34, 491, 493, 16], [34, 318, 320, 4], [34, 328, 330, 5], [42, 499, 297], [34, 500, 502, 17], [35, 323, 324, 325], [35, 332, 333, 334], [37, 339, 340, 341], [39, 343, 344, 345], [38, 383, 384, 385], [41, 622, 623], [41, 619, 620], [41, 649, 651, 18], [41, 653, 655, 19], [41, 657, 659, 20], [41, 677, 679, 24], [41, 685, 686], [41, 688, 690, 26], [41, 673, 675, 23], [41, 681, 683, 25], [41, 692, 693], [41, 695, 697, 27], [41, 699, 701, 28], [41, 665, 667, 21], [41, 669, 671, 22], [41, 715, 717, 29], [41, 731, 733, 30], [41, 743, 745, 31], [41, 755, 757, 32], [41, 775, 704, 705], [41, 776, 752, 753]]
def aMCp : List Nat := [284, 288, 295, 281, 342, 346, 350, 354, 378, 239, 247, 236, 243, 326, 335, 362, 366, 371, 390, 358, 421, 386, 435, 443, 452, 456, 460, 232, 251, 256, 260, 264, 268, 272, 305, 395, 403, 408, 417, 425, 431, 439, 448, 465, 469, 477, 481, 489, 498, 291, 313, 309, 412, 399, 277, 321, 331, 494, 317, 473, 503, 485, 624, 621, 687, 652, 618, 628, 632, 636, 640, 644, 656, 660, 648, 680, 676, 691, 702, 684, 698, 694, 672, 668, 664, 706, 710, 718, 714, 722, 726, 734, 730, 738, 746, 742, 750, 758, 754, 762, 766, 770, 774, 381, 298]
def aLp0 : List Nat := [82]
def aLp1 : List Nat := [143, 145, 147, 149]
def aLp2 : List Nat := [67, 69, 71]
def aLp3 : List Nat := [109, 111, 113, 115, 117, 119, 121, 123, 125, 127, 129]
def aLp4 : List Nat := [172, 174, 176, 178, 180, 182, 184, 186]
def aLp5 : List Nat := [202, 204, 206, 208, 210, 212, 214, 216, 218, 220, 222, 224, 226]
def aLp6 : List Nat := [544, 546, 548, 550, 552, 554, 556, 558, 560, 562, 564, 566, 568, 570, 572, 574, 576, 578, 580, 582, 584, 586, 588, 590, 592, 594, 596, 598, 600, 602, 604, 606, 608, 610]
def aKT : List (Nat × Nat × Int32) := [(7, 265, 1431655765), (7, 266, 858993459), (7, 267, 252645135)]
def aKTp : List Nat := [299, 300, 301]
def aAT : List (Nat × Nat) := [(3, 58), (4, 37)]
def aATp : List Nat := [372, 444]
def aXT : List (Nat × Nat) := [(2, 9), (5, 143)]
def aXTp : List Nat := [58, 427]
def aXTw : List Nat := [59, 36, 60]
def aNT : List (Nat × Nat) := [(2, 43), (4, 51), (5, 138)]
def aNTp : List Nat := [336, 461, 426]
def aNTw : List Nat := [337, 36, 338]
def aCp : List Nat := [374, 373, 43]
def aMT : List (Nat × Nat × Nat × Nat) := [(0, 15, 0, 1), (0, 19, 1, 0), (0, 23, 104, 1), (0, 29, 49, 2), (0, 32, 2, 0), (1, 26, 6, 0), (1, 30, 7, 1), (1, 34, 49, 2), (1, 38, 19, 0), (1, 43, 8, 0), (1, 47, 103, 1), (1, 53, 104, 1), (2, 28, 9, 1), (2, 32, 12, 0), (2, 36, 10, 0), (2, 40, 49, 2), (3, 46, 16, 0), (3, 50, 17, 0), (3, 54, 49, 2), (3, 64, 15, 0), (3, 67, 18, 0), (4, 43, 25, 0), (4, 47, 26, 0), (5, 75, 11, 0), (5, 79, 12, 0), (5, 89, 10, 0), (5, 93, 54, 0), (5, 97, 3, 0), (5, 100, 51, 0), (5, 103, 58, 0), (5, 106, 15, 0), (5, 110, 53, 0), (5, 114, 6, 0), (5, 117, 52, 0), (5, 126, 50, 0), (5, 129, 20, 0), (5, 132, 1, 0), (5, 135, 49, 1), (5, 149, 22, 0), (5, 152, 23, 0), (5, 155, 24, 0), (5, 170, 59, 0), (5, 173, 61, 0), (5, 182, 2, 0), (5, 188, 57, 0), (5, 191, 55, 0), (5, 194, 56, 0), (5, 200, 104, 1), (5, 205, 60, 0), (5, 208, 13, 0), (5, 211, 14, 0), (5, 226, 4, 0), (5, 229, 5, 0), (5, 232, 21, 0), (6, 91, 62, 1), (6, 101, 63, 1), (6, 115, 65, 0), (6, 119, 72, 0), (6, 123, 73, 0), (6, 126, 75, 0), (6, 130, 64, 1), (6, 133, 77, 0), (6, 137, 76, 0), (6, 143, 79, 0), (6, 146, 81, 1), (6, 152, 80, 0), (6, 155, 78, 0), (6, 158, 83, 0), (6, 161, 82, 0), (6, 164, 87, 0), (6, 170, 91, 0), (6, 173, 94, 0), (6, 177, 97, 0), (6, 181, 85, 0), (6, 184, 98, 0)]
end
section
/-! ===== my machine: what an instruction asks (stP), what a block asks (exP) ===== -/
def amask : List Bool → AL → AL
  | b :: bs, o :: os => (match b with | true => o | false => none) :: amask bs os
  | _, _ => []
def aup (m : AM) (r : Nat) (g : Nat → Int32) : AM := fun a => if a = r then g else m a
def swP (k : Nat → AL → Prop) (x : Int32) (ls : AL) : Nat → List (Nat × List Bool) → Prop
  | _, [] => False
  | i, [t] => (¬ (0 ≤ x.toInt ∧ x.toInt < i)) → k t.1 (amask t.2 ls)
  | i, t :: ts => (x = nI i → k t.1 (amask t.2 ls)) ∧ swP k x ls (i + 1) ts
def brP (k : Nat → AL → Prop) (c : Prop) (ls : AL) : List (Nat × List Bool) → Prop
  | [t, f] => (c → k t.1 (amask t.2 ls)) ∧ (¬ c → k f.1 (amask f.2 ls))
  | _ => False
def brN (k : Nat → AL → Prop) (c : Prop) (ls : AL) : List (Nat × List Bool) → Prop
  | [t, f] => (¬ c → k t.1 (amask t.2 ls)) ∧ (c → k f.1 (amask f.2 ls))
  | _ => False
def p1 (st : List AV) (f : Int32 → List AV → Prop) : Prop := match st with
  | .inl x :: r => f x r
  | _ => False
def p2 (st : List AV) (f : Int32 → Int32 → List AV → Prop) : Prop := match st with
  | .inl y :: .inl x :: r => f x y r
  | _ => False
def pr (st : List AV) (f : Nat → List AV → Prop) : Prop := match st with
  | .inr x :: r => f x r
  | _ => False
def pobj (r : Nat) (ci : Nat) (f : List (Option Nat) → Prop) : Prop := match shF r with
  | some (.inr (c, fs)) => c = ci ∧ f fs
  | _ => False
def parr (r : Nat) (f : Nat → Nat → Prop) : Prop := match shF r with
  | some (.inl (t, n)) => f t n
  | _ => False
abbrev APost : Type := Option Int32 → AM → Prop
def apush (r : Option Int32) (st : List AV) : List AV := match r with
  | some x => .inl x :: st
  | none => st
def stP (CC : Nat → List AV → AM → APost → Prop) (D : Nat) (zr : Bool) (k : Nat → AL → List AV → AM → Prop) (ret : APost) (i : Instr) (v : Int32) (a b : Nat) (ts : List (Nat × List Bool)) (ls : AL) (st : List AV) (m : AM) (K : AL → List AV → AM → Prop) : Prop := match i with
  | .nop => match ts with
    | [t] => k t.1 (amask t.2 ls) st m
    | _ => False
  | .iconst _ => K ls (.inl v :: st) m
  | .bipush _ => K ls (.inl v :: st) m
  | .sipush _ => K ls (.inl v :: st) m
  | .ldc_w _ => K ls (.inl v :: st) m
  | .iload _ => match ls[a]? with
    | some (some (.inl x)) => K ls (.inl x :: st) m
    | _ => False
  | .iload_n _ => match ls[a]? with
    | some (some (.inl x)) => K ls (.inl x :: st) m
    | _ => False
  | .aload_n _ => match ls[a]? with
    | some (some (.inr x)) => K ls (.inr x :: st) m
    | _ => False
  | .istore _ => p1 st (fun x r => K (ls.set a (some (.inl x))) r m)
  | .istore_n _ => p1 st (fun x r => K (ls.set a (some (.inl x))) r m)
  | .iinc _ _ => match ls[a]? with
    | some (some (.inl x)) => K (ls.set a (some (.inl (x + v)))) st m
    | _ => False
  | .iadd => p2 st (fun x y r => K ls (.inl (x + y) :: r) m)
  | .isub => p2 st (fun x y r => K ls (.inl (x - y) :: r) m)
  | .imul => p2 st (fun x y r => K ls (.inl (x * y) :: r) m)
  | .iand => p2 st (fun x y r => K ls (.inl (x &&& y) :: r) m)
  | .ior => p2 st (fun x y r => K ls (.inl (x ||| y) :: r) m)
  | .ixor => p2 st (fun x y r => K ls (.inl (x ^^^ y) :: r) m)
  | .ishl => p2 st (fun x y r => K ls (.inl (x <<< (y &&& 31)) :: r) m)
  | .ishr => p2 st (fun x y r => K ls (.inl (x >>> (y &&& 31)) :: r) m)
  | .iushr => p2 st (fun x y r => K ls (.inl ((x.toUInt32 >>> (y.toUInt32 &&& Int32.toUInt32 31)).toInt32) :: r) m)
  | .i2b => p1 st (fun x r => K ls (.inl (x.toInt8.toInt32) :: r) m)
  | .dup => match st with
    | x :: r => K ls (x :: x :: r) m
    | _ => False
  | .dup2 => match st with
    | x :: y :: r => K ls (x :: y :: x :: y :: r) m
    | _ => False
  | .pop => match st with
    | _ :: r => K ls r m
    | _ => False
  | .getfield _ => pr st (fun q r => pobj q a (fun fs => match fs[b]? with
    | some none => K ls (.inl (m q b) :: r) m
    | some (some q') => K ls (.inr q' :: r) m
    | none => False))
  | .putfield _ => p1 st (fun x r0 => pr r0 (fun q r => pobj q a (fun fs => match fs[b]? with
    | some none => (v = 0 ∨ x = 0 ∨ x = 1) ∧ K ls r (aup m q (upd (m q) b x))
    | _ => False)))
  | .arraylength => pr st (fun q r => parr q (fun _ n => K ls (.inl (nI n) :: r) m))
  | .iaload => p1 st (fun i r0 => pr r0 (fun q r => parr q (fun t n => t = 0 ∧ vp_in i n ∧ K ls (.inl (m q i.toNatClampNeg) :: r) m)))
  | .baload => p1 st (fun i r0 => pr r0 (fun q r => parr q (fun t n => (t = 1 ∨ t = 2) ∧ vp_in i n ∧ K ls (.inl (m q i.toNatClampNeg) :: r) m)))
  | .iastore => p2 st (fun i x r0 => pr r0 (fun q r => parr q (fun t n => t = 0 ∧ vp_in i n ∧ K ls r (aup m q (upd (m q) i.toNatClampNeg x)))))
  | .bastore => p2 st (fun i x r0 => pr r0 (fun q r => parr q (fun t n => vp_in i n ∧ (t = 1 → K ls r (aup m q (upd (m q) i.toNatClampNeg (vp_nar .byte x)))) ∧ (t = 2 → K ls r (aup m q (upd (m q) i.toNatClampNeg (vp_nar .boolean x)))) ∧ (t = 1 ∨ t = 2))))
  | .if_icmp .eq _ => p2 st (fun x y r => brP (fun t l => k t l r m) (x = y) ls ts)
  | .if_icmp .ne _ => p2 st (fun x y r => brN (fun t l => k t l r m) (x = y) ls ts)
  | .if_icmp .lt _ => p2 st (fun x y r => brP (fun t l => k t l r m) (x < y) ls ts)
  | .if_icmp .ge _ => p2 st (fun x y r => brP (fun t l => k t l r m) (y ≤ x) ls ts)
  | .if_icmp .gt _ => p2 st (fun x y r => brP (fun t l => k t l r m) (y < x) ls ts)
  | .if_icmp .le _ => p2 st (fun x y r => brP (fun t l => k t l r m) (x ≤ y) ls ts)
  | .ifCond .eq _ => p1 st (fun x r => brP (fun t l => k t l r m) (x = 0) ls ts)
  | .ifCond .ne _ => p1 st (fun x r => brN (fun t l => k t l r m) (x = 0) ls ts)
  | .ifCond .lt _ => p1 st (fun x r => brP (fun t l => k t l r m) (x < 0) ls ts)
  | .ifCond .ge _ => p1 st (fun x r => brP (fun t l => k t l r m) (0 ≤ x) ls ts)
  | .goto _ => match ts with
    | [t] => k t.1 (amask t.2 ls) st m
    | _ => False
  | .tableswitch _ _ _ _ => p1 st (fun x r => swP (fun t l => k t l r m) x ls 0 ts)
  | .invokevirtual _ => match ts with
    | [t] => (match (st.take b).reverse with
      | .inr q :: as => pobj q t.1 (fun _ => as.length + 1 = b ∧ (st.drop b).length ≤ 8 ∧ ∃ Q, CC a (.inr q :: as) m Q ∧ ∀ r m1, Q r m1 → K ls (apush r (st.drop b)) m1)
      | _ => False)
    | _ => False
  | .invokestatic _ => match ts with
    | [] => (st.take b).length = b ∧ (st.drop b).length ≤ 8 ∧ ∃ Q, CC a (st.take b).reverse m Q ∧ ∀ r m1, Q r m1 → K ls (apush r (st.drop b)) m1
    | (0, _) :: _ => (match st with
      | .inl n :: .inl dp :: .inr q1 :: .inl sp :: .inr q0 :: r => r.length ≤ 8 ∧ 1 ≤ D ∧ parr q0 (fun t0 n0 => parr q1 (fun t1 n1 => t0 = 0 ∧ t1 = 0 ∧ ¬ sp < 0 ∧ ¬ dp < 0 ∧ ¬ n < 0 ∧ sp.toNatClampNeg + n.toNatClampNeg ≤ n0 ∧ dp.toNatClampNeg + n.toNatClampNeg ≤ n1 ∧ K ls r (aup m q1 (va_cpy (m q0) (m q1) sp.toNatClampNeg dp.toNatClampNeg n.toNatClampNeg))))
      | _ => False)
    | (1, _) :: _ => p2 st (fun x y r => r.length ≤ 8 ∧ 1 ≤ D ∧ K ls (.inl (if x < y then y else x) :: r) m)
    | (2, _) :: _ => p2 st (fun x y r => r.length ≤ 8 ∧ 1 ≤ D ∧ K ls (.inl (if y < x then y else x) :: r) m)
    | _ => False
  | .ireturn => match st with
    | [.inl x] => (zr = false ∨ x = 0 ∨ x = 1) ∧ ret (some x) m
    | _ => False
  | .return_ => match st with
    | [] => ret none m
    | _ => False
  | _ => False
def exP (CC : Nat → List AV → AM → APost → Prop) (D : Nat) (zr : Bool) (k : Nat → AL → List AV → AM → Prop) (ret : APost) : List AOp → AL → List AV → AM → Prop
  | [], _, _, _ => False
  | (_, _, i, v, a, b, ts) :: rest, ls, st, m => stP CC D zr k ret i v a b ts ls st m (exP CC D zr k ret rest)
def mI (y : Nat) : MethodName × ByteArray × Nat × Option FieldType × Nat × List (Nat × List AOp) := mT.getD y (objectInit, ⟨#[]⟩, 0, none, 0, [])
abbrev mNm (y : Nat) : MethodName := (mI y).1
abbrev mCode (y : Nat) : ByteArray := (mI y).2.1
abbrev mMax (y : Nat) : Nat := (mI y).2.2.1
abbrev mRet (y : Nat) : Option FieldType := (mI y).2.2.2.1
abbrev mOwn (y : Nat) : Nat := (mI y).2.2.2.2.1
abbrev mBl (y : Nat) : List (Nat × List AOp) := (mI y).2.2.2.2.2
def lkB (pc : Nat) : List (Nat × List AOp) → List AOp
  | [] => []
  | (p, o) :: t => if p = pc then o else lkB pc t
def blkOf (y pc : Nat) : List AOp := lkB pc (mBl y)
def mZr (y : Nat) : Bool := mRet y == some .boolean
def cNm (o : Nat) : String := cNames.getD o ""
/-! ===== the words ===== -/
def isNestW : Cond → Bool
  | .fieldLinkNest _ _ _ _ _ _ => true
  | .methodLinkNest _ _ _ _ => true
  | _ => false
def aGW : List Cond := lw_tbl.filter goodWord
def aNW : List Cond := lw_tbl.filter isNestW
def wsY (y : Nat) : List Cond := .code (mNm y) (mCode y) (mMax y) (mRet y) :: aGW
/-! ===== the world of a memory ===== -/
abbrev aG : Type := (Nat → Nat) × ((Nat → ClassId) × (Nat → Nat → Nat)) × (Nat → ClassId)
def atr (adr : Nat → Nat) : AV → Value
  | .inl x => .int x
  | .inr r => .ref (adr r)
def afl (adr : Nat → Nat) (f : Nat → Int32) (j : Nat) (o : Option Nat) : Value := match o with
  | none => .int (f j)
  | some r => .ref (adr r)
def wd1 (adr : Nat → Nat) (cA : Nat → ClassId) (m : AM) (k : Nat) (e : ASh) : Nat × va_E := match e with
  | .inl (t, n) => (adr k, .inl (cA t, n, .inl (m k)))
  | .inr (ci, fs) => (adr k, .inr (ci, fs.mapIdx (afl adr (m k))))
def wd (adr : Nat → Nat) (cA : Nat → ClassId) (m : AM) : va_W := shp.mapIdx (wd1 adr cA m)
def atys (cA : Nat → ClassId) : List (ClassId × FieldType) := [(cA 0, .int), (cA 1, .byte), (cA 2, .boolean)]
theorem wd_at (adr : Nat → Nat) (cA : Nat → ClassId) (m : AM) (r : Nat) : (wd adr cA m)[r]? = (shp[r]?).map (wd1 adr cA m r) := by
  unfold wd
  rw [List.getElem?_mapIdx]
theorem wd_arr {adr : Nat → Nat} {cA : Nat → ClassId} {m : AM} {r t n : Nat} (h : shp[r]? = some (.inl (t, n))) : (wd adr cA m)[r]? = some (adr r, .inl (cA t, n, .inl (m r))) := by
  rw [wd_at, h]; rfl
theorem wd_obj {adr : Nat → Nat} {cA : Nat → ClassId} {m : AM} {r ci : Nat} {fs : List (Option Nat)} (h : shp[r]? = some (.inr (ci, fs))) : (wd adr cA m)[r]? = some (adr r, .inr (ci, fs.mapIdx (afl adr (m r)))) := by
  rw [wd_at, h]; rfl
theorem wd_set {adr : Nat → Nat} {cA : Nat → ClassId} {m : AM} {r : Nat} {g : Nat → Int32} {e : ASh} {x : Nat × va_E} (h : shp[r]? = some e) (hx : x = wd1 adr cA (aup m r g) r e) : (wd adr cA m).set r x = wd adr cA (aup m r g) := by
  apply List.ext_getElem?
  intro i
  rw [List.getElem?_set, wd_at, wd_at]
  by_cases hi : r = i
  · subst hi
    have hl : r < (wd adr cA m).length := by
      have h2 : (wd adr cA m).length = shp.length := by unfold wd; simp
      rw [h2]
      exact (List.getElem?_eq_some_iff.mp h).1
    rw [if_pos rfl, if_pos hl, h, hx]
    rfl
  · rw [if_neg hi]
    cases hs : shp[i]? with
    | none => rfl
    | some e' =>
      have hm : aup m r g i = m i := by unfold aup; rw [if_neg (fun q => hi q.symm)]
      cases e' with
      | inl q => simp [wd1, hm]
      | inr q => simp [wd1, hm]
theorem wd_set_arr {adr : Nat → Nat} {cA : Nat → ClassId} {m : AM} {r t n : Nat} {g : Nat → Int32} (h : shp[r]? = some (.inl (t, n))) : (wd adr cA m).set r (adr r, .inl (cA t, n, .inl g)) = wd adr cA (aup m r g) := by
  refine wd_set h ?_
  simp [wd1, aup]
theorem wd_set_obj {adr : Nat → Nat} {cA : Nat → ClassId} {m : AM} {r ci b : Nat} {fs : List (Option Nat)} {x : Int32} (h : shp[r]? = some (.inr (ci, fs))) (hb : fs[b]? = some none) : (wd adr cA m).set r (adr r, .inr (ci, (fs.mapIdx (afl adr (m r))).set b (.int x))) = wd adr cA (aup m r (upd (m r) b x)) := by
  refine wd_set h ?_
  have e : (fs.mapIdx (afl adr (m r))).set b (.int x) = fs.mapIdx (afl adr (upd (m r) b x)) := by
    apply List.ext_getElem?
    intro i
    rw [List.getElem?_set, List.getElem?_mapIdx, List.getElem?_mapIdx]
    by_cases hi : b = i
    · subst hi
      have hl : b < (fs.mapIdx (afl adr (m r))).length := by simp; exact (List.getElem?_eq_some_iff.mp hb).1
      rw [if_pos rfl, if_pos hl, hb]
      simp [afl, upd]
    · rw [if_neg hi]
      cases fs[i]? with
      | none => rfl
      | some o => cases o with
        | none =>
          have hi2 : ¬ i = b := fun q => hi q.symm
          simp [afl, upd, hi2]
        | some r => rfl
  simp [wd1, aup, e]
theorem wd_adr {adr : Nat → Nat} {cA : Nat → ClassId} {m m' : AM} {k : Nat} {q : Nat × va_E} (h : (wd adr cA m)[k]? = some q) : ∃ q', (wd adr cA m')[k]? = some q' ∧ q'.1 = q.1 := by
  rw [wd_at] at h ⊢
  cases hs : shp[k]? with
  | none => rw [hs] at h; cases h
  | some e =>
    rw [hs] at h
    refine ⟨wd1 adr cA m' k e, rfl, ?_⟩
    have : q = wd1 adr cA m k e := (Option.some.inj h).symm
    subst this
    cases e with
    | inl q => rfl
    | inr q => rfl
theorem wd_D {A : Nat → Prop} {adr : Nat → Nat} {cA : Nat → ClassId} {m : AM} (m' : AM) (h : va_D A (wd adr cA m)) : va_D A (wd adr cA m') := by
  refine ⟨fun i j x y hx hy hxy => ?_, fun k q hq => ?_⟩
  · obtain ⟨x', hx', ex⟩ := wd_adr (m' := m) hx
    obtain ⟨y', hy', ey⟩ := wd_adr (m' := m) hy
    exact h.1 i j x' y' hx' hy' (by rw [ex, ey]; exact hxy)
  · obtain ⟨q', hq', eq⟩ := wd_adr (m' := m) hq
    rw [← eq]; exact h.2 k q' hq'
theorem wd_A {adr : Nat → Nat} {cA : Nat → ClassId} {m m' : AM} {sz q : Nat} (h : va_A (wd adr cA m) sz q) : va_A (wd adr cA m') sz q := by
  rcases h with ⟨k, e, h⟩ | h
  · obtain ⟨q', hq', eq⟩ := wd_adr (m' := m') h
    refine Or.inl ⟨k, q'.2, ?_⟩
    have eq2 : q'.1 = q := eq
    rw [hq', ← eq2]
  · exact Or.inr h
/-! ===== locals ===== -/
def alh (adr : Nat → Nat) (lsA : Array Slot) (nL : Nat) (ls : AL) : Prop := lsA.size = nL ∧ lv_wf lsA ∧ ∀ (i : Nat) (v : AV), ls[i]? = some (some v) → lsA[i]? = some (.val (atr adr v))
def als (adr : Nat → Nat) (ls : AL) : List (Nat × Value) := (List.range ls.length).filterMap (fun i => match ls[i]? with
  | some (some v) => some (i, atr adr v)
  | _ => none)
theorem als_mem {adr : Nat → Nat} {ls : AL} {q : Nat × Value} (h : q ∈ als adr ls) : ∃ v, ls[q.1]? = some (some v) ∧ q.2 = atr adr v := by
  obtain ⟨i, hi, h2⟩ := List.mem_filterMap.mp h
  revert h2
  cases hl : ls[i]? with
  | none => intro h2; cases h2
  | some o => cases o with
    | none => intro h2; cases h2
    | some v => intro h2; cases h2; exact ⟨v, hl, rfl⟩
theorem mem_als {adr : Nat → Nat} {ls : AL} {i : Nat} {v : AV} (h : ls[i]? = some (some v)) : (i, atr adr v) ∈ als adr ls := by
  refine List.mem_filterMap.mpr ⟨i, List.mem_range.mpr (List.getElem?_eq_some_iff.mp h).1, ?_⟩
  rw [h]
theorem alh.lv {adr : Nat → Nat} {lsA : Array Slot} {nL : Nat} {ls : AL} (h : alh adr lsA nL ls) : lv_has lsA nL (als adr ls) := by
  refine ⟨h.1, h.2.1, fun q hq => ?_⟩
  obtain ⟨v, h1, h2⟩ := als_mem hq
  rw [h2]
  exact h.2.2 _ _ h1
theorem atr_cat (adr : Nat → Nat) (v : AV) : (atr adr v).category = 1 := by cases v <;> rfl
theorem alh.set {adr : Nat → Nat} {ls' : Array Slot} {nL i : Nat} {ls : AL} {v : AV} (h : lv_has ls' nL ((i, atr adr v) :: (als adr ls).filter (fun q => !(q.1 == i) && !(q.1 + 1 == i && q.2.category == 2)))) : alh adr ls' nL (ls.set i (some v)) := by
  refine ⟨h.1, h.2.1, fun j w hj => ?_⟩
  rw [List.getElem?_set] at hj
  by_cases hij : i = j
  · subst hij
    rw [if_pos rfl] at hj
    split at hj
    · cases hj
      exact h.2.2 _ List.mem_cons_self
    · cases hj
  · rw [if_neg hij] at hj
    refine h.2.2 (j, atr adr w) (List.mem_cons_of_mem _ (List.mem_filter.mpr ⟨mem_als hj, ?_⟩))
    have hij2 : ¬ j = i := fun q => hij q.symm
    simp [atr_cat, hij2]
theorem amask_at : ∀ (bs : List Bool) (ls : AL) (i : Nat) (v : AV), (amask bs ls)[i]? = some (some v) → ls[i]? = some (some v)
  | [], ls, i, v, h => by simp [amask] at h
  | b :: bs, [], i, v, h => by simp [amask] at h
  | b :: bs, o :: os, 0, v, h => by
    cases b <;> simp [amask] at h ⊢
    exact h
  | b :: bs, o :: os, i + 1, v, h => by
    simp only [amask, List.getElem?_cons_succ] at h ⊢
    exact amask_at bs os i v h
theorem alh.mask {adr : Nat → Nat} {lsA : Array Slot} {nL : Nat} {ls : AL} (bs : List Bool) (h : alh adr lsA nL ls) : alh adr lsA nL (amask bs ls) := ⟨h.1, h.2.1, fun i v hi => h.2.2 i v (amask_at bs ls i v hi)⟩
end
section
/-! ===== the check of a method's blocks against its bytes ===== -/
def chkI (o nL : Nat) (ret : Option FieldType) (i : Instr) (len : Nat) (v : Int32) (a b : Nat) (pc : Nat) (ts : List (Nat × List Bool)) : Bool := match i with
  | .iconst n => len == 1 && decide (Int32.ofInt n = v)
  | .bipush n => len == 2 && decide ((Int8.ofInt n).toInt32 = v)
  | .sipush n => len == 3 && decide ((Int16.ofInt n).toInt32 = v)
  | .ldc_w n => len == 3 && decide ((o, n, v) ∈ aKT)
  | .iload n => len == 2 && n == a
  | .iload_n n => len == 1 && n.val == a
  | .aload_n n => len == 1 && n.val == a
  | .istore n => len == 2 && n == a && decide (a < nL)
  | .istore_n n => len == 1 && n.val == a && decide (a < nL)
  | .iinc n k => len == 3 && n == a && decide (a < nL) && decide (Int32.ofInt k = v)
  | .iadd => len == 1
  | .isub => len == 1
  | .imul => len == 1
  | .iand => len == 1
  | .ior => len == 1
  | .ixor => len == 1
  | .ishl => len == 1
  | .ishr => len == 1
  | .iushr => len == 1
  | .i2b => len == 1
  | .dup => len == 1
  | .dup2 => len == 1
  | .pop => len == 1
  | .getfield n => len == 3 && (decide ((o, n, a, b, false) ∈ aFT) || decide ((o, n, a, b, true) ∈ aFT))
  | .putfield n => len == 3 && (decide ((o, n, a, b, false) ∈ aFT) || decide ((o, n, a, b, true) ∈ aFT)) && (match vwCl[a]? with
    | some (_, T, _) => (T b).2.2.2 == false && ((v == 0 && decide (parseFieldDescriptor (T b).2.2.1 = some .int)) || (v == 1 && decide (parseFieldDescriptor (T b).2.2.1 = some .boolean)))
    | none => false)
  | .arraylength => len == 1
  | .iaload => len == 1
  | .baload => len == 1
  | .iastore => len == 1
  | .bastore => len == 1
  | .if_icmp _ off => len == 3 && (match ts with
    | [t, f] => decide ((pc : Int) + off = (t.1 : Int)) && f.1 == pc + 3
    | _ => false)
  | .ifCond _ off => len == 3 && (match ts with
    | [t, f] => decide ((pc : Int) + off = (t.1 : Int)) && f.1 == pc + 3
    | _ => false)
  | .goto off => len == 3 && (match ts with
    | [t] => decide ((pc : Int) + off = (t.1 : Int))
    | _ => false)
  | .tableswitch d lo hi offs => lo == 0 && hi + 1 == (offs.size : Int) && decide (ts.map (fun t => (t.1 : Int)) = (offs.toList ++ [d]).map (fun x => (pc : Int) + x)) && decide (offs.size < 1000)
  | .invokevirtual n => len == 3 && decide ((o, n, a, 0) ∈ aMT) && decide (((parseMethodDescriptor (mNm a).desc).map (fun d => d.parameters.length)) = some (b - 1)) && (match ts with
    | [t] => decide (t.1 = mOwn a)
    | _ => false)
  | .invokestatic n => len == 3 && (match ts with
    | [] => (decide ((o, n, a, 1) ∈ aMT) || decide ((o, n, a, 2) ∈ aMT)) && decide (((parseMethodDescriptor (mNm a).desc).map (fun d => d.parameters.length)) = some b)
    | (0, _) :: _ => decide ((o, n) ∈ aAT)
    | (1, _) :: _ => decide ((o, n) ∈ aXT)
    | (2, _) :: _ => decide ((o, n) ∈ aNT)
    | _ => false)
  | .ireturn => len == 1 && (decide (ret = some .int) || decide (ret = some .boolean))
  | .return_ => len == 1 && decide (ret = none)
  | _ => false
def chkO (o nL : Nat) (ret : Option FieldType) (cc : ByteArray) : Nat → List AOp → Bool
  | _, [] => true
  | p, (pc, len, i, v, a, b, ts) :: rest => p == pc && (match i with
    | .nop => (match ts with
      | [t] => t.1 == pc
      | _ => false)
    | i => decide (decode cc pc = .ok (i, len)) && chkI o nL ret i len v a b pc ts) && chkO o nL ret cc (pc + len) rest
def chkB (o nL : Nat) (ret : Option FieldType) (cc : ByteArray) (bl : List (Nat × List AOp)) : Bool := bl.all (fun q => chkO o nL ret cc q.1 q.2)
def chkM (y : Nat) : Bool := chkB (mOwn y) (mMax y) (mRet y) (mCode y) (mBl y)
end
section
/-! ===== what the tables say ===== -/
theorem aGW_of {i : Nat} {w : Cond} (h : lw_tbl[i]? = some w) (hg : goodWord w = true) : w ∈ aGW := List.mem_filter.mpr ⟨List.mem_of_getElem? h, hg⟩
theorem aNW_of {i : Nat} {w : Cond} (h : lw_tbl[i]? = some w) (hg : isNestW w = true) : w ∈ aNW := List.mem_filter.mpr ⟨List.mem_of_getElem? h, hg⟩
def needF (q : Nat × Nat × Nat × Nat × Bool) : Cond := match vwCl[q.2.2.1]? with
  | some (C, T, _) => (match q.2.2.2.2 with
    | false => Cond.fieldLink (cNm q.1) q.2.1 C (T q.2.2.2.1).2.1 (T q.2.2.2.1).2.2.1
    | true => Cond.fieldLinkNest (cNm q.1) q.2.1 C (T q.2.2.2.1).2.1 (T q.2.2.2.1).2.2.1 RX5)
  | none => Cond.tt
def needM (q : Nat × Nat × Nat × Nat) : List Cond := match q.2.2.2 with
  | 0 => [.initialized (mNm q.2.2.1).cls, .methodLink (cNm q.1) q.2.1 (mNm q.2.2.1), .instanceMethod (mNm q.2.2.1), .selects (mNm q.2.2.1).cls (mNm q.2.2.1) (mNm q.2.2.1)]
  | 1 => [.initialized (mNm q.2.2.1).cls, .methodLink (cNm q.1) q.2.1 (mNm q.2.2.1), .static (mNm q.2.2.1)]
  | _ => [.initialized (mNm q.2.2.1).cls, .static (mNm q.2.2.1), .methodLinkNest (cNm q.1) q.2.1 (mNm q.2.2.1) RX5]
set_option maxRecDepth 100000 in
theorem aFT_pos : aFTp.map (fun i => lw_tbl[i]?) = aFT.map (fun q => some (needF q)) := by decide +kernel
set_option maxRecDepth 100000 in
theorem aMC_pos : aMCp.map (fun i => lw_tbl[i]?) = mT.map (fun q => some (Cond.code q.1 q.2.1 q.2.2.1 q.2.2.2.1)) := by rfl
set_option maxRecDepth 100000 in
theorem aMT_pos : aMTp.map (fun ps => ps.map (fun i => lw_tbl[i]?)) = aMT.map (fun q => (needM q).map some) := by decide +kernel
set_option maxRecDepth 100000 in
theorem aLp_pos : aLp0.map (fun i => lw_tbl[i]?) = (u_ws RX0 TX0 1).map some ∧ aLp1.map (fun i => lw_tbl[i]?) = (u_ws RX1 TX1 4).map some ∧ aLp2.map (fun i => lw_tbl[i]?) = (u_ws RX2 TX2 3).map some ∧ aLp3.map (fun i => lw_tbl[i]?) = (u_ws RX3 TX3 11).map some ∧ aLp4.map (fun i => lw_tbl[i]?) = (u_ws RX4 TX4 8).map some ∧ aLp5.map (fun i => lw_tbl[i]?) = (u_ws RX5 TX5 13).map some ∧ aLp6.map (fun i => lw_tbl[i]?) = (u_ws RX6 TX6 34).map some := by decide +kernel
set_option maxRecDepth 100000 in
theorem aKT_pos : aKTp.map (fun i => lw_tbl[i]?) = aKT.map (fun q => some (Cond.constant (cNm q.1) q.2.1 q.2.2)) := by decide +kernel
set_option maxRecDepth 100000 in
theorem aAT_pos : aATp.map (fun i => lw_tbl[i]?) = aAT.map (fun q => some (Cond.methodLink (cNm q.1) q.2 arraycopyName)) := by decide +kernel
set_option maxRecDepth 100000 in
theorem aXT_pos : aXTp.map (fun i => lw_tbl[i]?) = aXT.map (fun q => some (Cond.methodLink (cNm q.1) q.2 Lib.Math.max.name)) := by decide +kernel
set_option maxRecDepth 100000 in
theorem aNT_pos : aNTp.map (fun i => lw_tbl[i]?) = aNT.map (fun q => some (Cond.methodLink (cNm q.1) q.2 Lib.Math.min.name)) := by decide +kernel
set_option maxRecDepth 100000 in
theorem aXT_w : aXTw.map (fun i => lw_tbl[i]?) = [Cond.static Lib.Math.max.name, Cond.initialized "java/lang/Math", Cond.code Lib.Math.max.name Lib.Math.max.code 2 (some .int)].map some := by decide +kernel
set_option maxRecDepth 100000 in
theorem aNT_w : aNTw.map (fun i => lw_tbl[i]?) = [Cond.static Lib.Math.min.name, Cond.initialized "java/lang/Math", Cond.code Lib.Math.min.name Lib.Math.min.code 2 (some .int)].map some := by decide +kernel
set_option maxRecDepth 100000 in
theorem aCp_pos : aCp.map (fun i => lw_tbl[i]?) = [Cond.native arraycopyName, Cond.static arraycopyName, Cond.initialized "java/lang/System"].map some := by decide +kernel
set_option maxRecDepth 100000 in
theorem aFT_side : aFT.all (fun q => match vwCl[q.2.2.1]? with
  | some (C, T, N) => decide (q.2.2.2.1 < N) && decide ((T q.2.2.2.1).1 = C)
  | none => false) = true := by decide +kernel
set_option maxRecDepth 100000 in
theorem aMT_side : aMT.all (fun q => decide ((mNm q.2.2.1).cls = cNm (mOwn q.2.2.1)) && decide ((mNm q.2.2.1).cls ≠ "java/lang/invoke/MethodHandle") && decide ((mNm q.2.2.1).cls ≠ "java/lang/invoke/VarHandle") && decide (mMax q.2.2.1 ≤ 60) && (decide (mOwn q.2.2.1 < 7) || q.2.2.2 != 0)) = true := by decide +kernel
theorem pos_mem {α : Type} {ps : List Nat} {ws : List α} {L : List Cond} {f : α → Cond} (h : ps.map (fun (i : Nat) => L[i]?) = ws.map (fun w => some (f w))) {w : α} (hw : w ∈ ws) : ∃ i : Nat, L[i]? = some (f w) := by
  obtain ⟨k, hk⟩ := List.mem_iff_getElem?.mp hw
  have h1 : (ps.map (fun (i : Nat) => L[i]?))[k]? = some (some (f w)) := by rw [h, List.getElem?_map, hk]; rfl
  rw [List.getElem?_map] at h1
  cases hi : ps[k]? with
  | none => rw [hi] at h1; cases h1
  | some i => rw [hi] at h1; exact ⟨i, Option.some.inj h1⟩
theorem pos_mem2 {α : Type} {ps : List (List Nat)} {ws : List α} {L : List Cond} {f : α → List Cond} (h : ps.map (fun p => p.map (fun (i : Nat) => L[i]?)) = ws.map (fun w => (f w).map some)) {w : α} (hw : w ∈ ws) {x : Cond} (hx : x ∈ f w) : ∃ i : Nat, L[i]? = some x := by
  obtain ⟨k, hk⟩ := List.mem_iff_getElem?.mp hw
  have h1 : (ps.map (fun p => p.map (fun (i : Nat) => L[i]?)))[k]? = some ((f w).map some) := by rw [h, List.getElem?_map, hk]; rfl
  rw [List.getElem?_map] at h1
  cases hi : ps[k]? with
  | none => rw [hi] at h1; cases h1
  | some p =>
    rw [hi] at h1
    have h2 : p.map (fun (i : Nat) => L[i]?) = (f w).map some := Option.some.inj h1
    exact pos_mem (f := id) h2 hx
theorem aLay_ok : ∀ q ∈ vwCl, ∀ w ∈ u_ws q.1 q.2.1 q.2.2, w ∈ aGW := by
  intro q hq
  obtain ⟨h0, h1, h2, h3, h4, h5, h6⟩ := aLp_pos
  have gd : ∀ (C : String) (T : u_T) (N : Nat), ∀ w ∈ u_ws C T N, goodWord w = true := by
    intro C T N w hw
    obtain ⟨k, -, rfl⟩ := List.mem_map.mp hw
    unfold u_lay
    split <;> rfl
  simp only [vwCl, List.mem_cons, List.not_mem_nil, or_false] at hq
  rcases hq with rfl | rfl | rfl | rfl | rfl | rfl | rfl
  · intro w hw; obtain ⟨i, hi⟩ := pos_mem (f := id) h0 hw; exact aGW_of hi (gd _ _ _ w hw)
  · intro w hw; obtain ⟨i, hi⟩ := pos_mem (f := id) h1 hw; exact aGW_of hi (gd _ _ _ w hw)
  · intro w hw; obtain ⟨i, hi⟩ := pos_mem (f := id) h2 hw; exact aGW_of hi (gd _ _ _ w hw)
  · intro w hw; obtain ⟨i, hi⟩ := pos_mem (f := id) h3 hw; exact aGW_of hi (gd _ _ _ w hw)
  · intro w hw; obtain ⟨i, hi⟩ := pos_mem (f := id) h4 hw; exact aGW_of hi (gd _ _ _ w hw)
  · intro w hw; obtain ⟨i, hi⟩ := pos_mem (f := id) h5 hw; exact aGW_of hi (gd _ _ _ w hw)
  · intro w hw; obtain ⟨i, hi⟩ := pos_mem (f := id) h6 hw; exact aGW_of hi (gd _ _ _ w hw)
theorem aTy_ok : ∀ q ∈ vwCl, ∃ ty : Nat → FieldType, (∀ k, k < q.2.2 → parseFieldDescriptor (q.2.1 k).2.2.1 = some (ty k)) ∧ ∀ a, a < q.2.2 → ∀ b, b < q.2.2 → a ≠ b → (q.2.1 a).2.1 ≠ (q.2.1 b).2.1 := by
  intro q hq
  simp only [vwCl, List.mem_cons, List.not_mem_nil, or_false] at hq
  rcases hq with rfl | rfl | rfl | rfl | rfl | rfl | rfl
  · exact ⟨tyX0, tyX0_ok, nmX0⟩
  · exact ⟨tyX1, tyX1_ok, nmX1⟩
  · exact ⟨tyX2, tyX2_ok, nmX2⟩
  · exact ⟨tyX3, tyX3_ok, nmX3⟩
  · exact ⟨tyX4, tyX4_ok, nmX4⟩
  · exact ⟨tyX5, tyX5_ok, nmX5⟩
  · exact ⟨tyX6, tyX6_ok, nmX6⟩
theorem aGood {w : Cond} (h : w ∈ aGW) : w ∈ aGW ∧ ((w.onTables && w.keeps) = true ∨ ∃ ty, w = .arrayClass ty) := ⟨h, good_of_word (List.mem_filter.mp h).2⟩
theorem aNW_warm {w : Cond} (hw : w ∈ aNW) {s U : State} (hW : s.WarmedH U.vm) (h : va_Nw w s) : va_Nw w U := by
  have h1 := (List.mem_filter.mp hw).2
  cases w <;> first | exact va_Nw.warmF hW h | exact va_Nw.warmM hW h | (simp [isNestW] at h1)
theorem aNW_same {w : Cond} (hw : w ∈ aNW) {s U : State} (hW : s.vm = U.vm) (h : va_Nw w s) : va_Nw w U := by
  have h1 := (List.mem_filter.mp hw).2
  cases w <;> first | exact va_Nw.same rfl hW h | (simp [isNestW] at h1)
end
section
/-! ===== contracts over my machine ===== -/
def aRm (D : Nat) : Room := { frames := D, cells := 0, slots := 0, locals := 100 * D }
def aPre (G : aG) (sz : Nat) (args : List AV) (m : AM) : Array Value → State → Prop :=
  va_Pc (args.map (atr G.1)) (fun U => U.heap.size = sz ∧ va_P G.2.1 vwCl (wd G.1 G.2.2 m) U.heap ∧ va_K G.2.1 vwCl (atys G.2.2) U ∧ va_D (fun _ => True) (wd G.1 G.2.2 m) ∧ ∀ w ∈ aNW, va_Nw w U)
def aPost (G : aG) (sz : Nat) (m : AM) (Q : APost) : Array Value → State → Outcome → State → Prop := fun _ st oc t =>
  (∃ (r : Option Int32) (u : AM), oc = .returned (r.map Value.int) ∧ Q r u ∧ va_P G.2.1 vwCl (wd G.1 G.2.2 u) t.heap) ∧ va_F (va_A (wd G.1 G.2.2 m) sz) st t
/-- the contract: method y, called with args over the memory m, returns r and leaves u with Q r u, within the room of depth D -/
def AC (D y : Nat) (args : List AV) (m : AM) (Q : APost) : Prop := ∀ (l : Launch) (G : aG) (sz : Nat),
  Met l (mNm y) (wsY y) (aRm D) (aPre G sz args m) (aPost G sz m Q) 0 0 (va_A (wd G.1 G.2.2 m) sz)
def aCC (D : Nat) : Nat → List AV → AM → APost → Prop := fun y args m Q => ∃ d, d < D ∧ AC d y args m Q
/-- what a walk stands on -/
def AOk (D y : Nat) (Q : APost) (p : Program) (l : Launch) (e : Env) (R : Room) (s : State) (mm : MethodId) (args : Array Value) (below : List Frame) (meth : Method) (c : Code) (cells slots : Nat) (Qm : State → Prop) (A : Nat → Prop) (G : aG) : Prop :=
  p.tables.exec = Jvm.exec ∧ c.code = mCode y ∧ c.maxLocals = mMax y ∧ s.vm.findClass (cNm (mOwn y)) = some mm.cls ∧ (∀ w ∈ aGW, w.before args s = true) ∧ (∀ w ∈ aNW, va_Nw w s) ∧ va_K G.2.1 vwCl (atys G.2.2) s ∧ (∀ q, s.heap.size ≤ q → A q) ∧ (D ≤ R.frames ∧ 100 * D ≤ R.locals ∧ cells ≤ R.cells ∧ slots ≤ R.slots) ∧
  (∀ (r : Option Int32) (m : AM) (H : Heap) (locs : List Loc) (pc : Nat) (lsA : Array Slot), Q r m → va_P G.2.1 vwCl (wd G.1 G.2.2 m) H → va_S A s.heap H locs → (match r with
    | some x => decode (mCode y) pc = .ok (.ireturn, 1) ∧ (mRet y = some .int ∨ (mRet y = some .boolean ∧ (x = 0 ∨ x = 1)))
    | none => decode (mCode y) pc = .ok (.return_, 1) ∧ mRet y = none) → W p l e R s mm args below meth c H locs cells slots Qm (F0 mm pc lsA (r.toList.map Value.int)))
def AAt (y : Nat) (p : Program) (l : Launch) (e : Env) (R : Room) (s : State) (mm : MethodId) (args : Array Value) (below : List Frame) (meth : Method) (c : Code) (cells slots : Nat) (Qm : State → Prop) (A : Nat → Prop) (G : aG) (pc : Nat) (ls : AL) (st : List AV) (m : AM) : Prop :=
  ∀ (H : Heap) (locs : List Loc) (lsA : Array Slot), va_P G.2.1 vwCl (wd G.1 G.2.2 m) H → va_D A (wd G.1 G.2.2 m) → va_S A s.heap H locs → alh G.1 lsA (mMax y) ls → W p l e R s mm args below meth c H locs cells slots Qm (F0 mm pc lsA (st.map (atr G.1)))
/-- the judgement: from place pc of method y, locals ls, operands st, memory m, the method comes to its end with Q -/
def AW (D y : Nat) (Q : APost) (pc : Nat) (ls : AL) (st : List AV) (m : AM) : Prop :=
  ∀ (p : Program) (l : Launch) (e : Env) (R : Room) (s : State) (mm : MethodId) (args : Array Value) (below : List Frame) (meth : Method) (c : Code) (cells slots : Nat) (Qm : State → Prop) (A : Nat → Prop) (G : aG),
    AOk D y Q p l e R s mm args below meth c cells slots Qm A G → AAt y p l e R s mm args below meth c cells slots Qm A G pc ls st m
/-! ===== a link that stands in the tables ===== -/
theorem aFT_link {o n a b : Nat} {f : Bool} (h : (o, n, a, b, f) ∈ aFT) : ∃ (C : String) (T : u_T) (N : Nat), vwCl[a]? = some (C, T, N) ∧ b < N ∧ (T b).1 = C ∧ ((f = false ∧ Cond.fieldLink (cNm o) n C (T b).2.1 (T b).2.2.1 ∈ aGW) ∨ (f = true ∧ Cond.fieldLinkNest (cNm o) n C (T b).2.1 (T b).2.2.1 RX5 ∈ aNW)) := by
  have h1 := List.all_eq_true.mp aFT_side _ h
  obtain ⟨i, hi⟩ := pos_mem aFT_pos h
  revert h1 hi
  unfold needF
  dsimp only
  cases hv : vwCl[a]? with
  | none => intro h1; cases h1
  | some q =>
    obtain ⟨C, T, N⟩ := q
    intro h1 hi
    simp only [Bool.and_eq_true, decide_eq_true_eq] at h1
    refine ⟨C, T, N, rfl, h1.1, h1.2, ?_⟩
    cases f with
    | false => exact Or.inl ⟨rfl, aGW_of hi rfl⟩
    | true => exact Or.inr ⟨rfl, aNW_of hi rfl⟩
theorem aMC_code {y : Nat} (h : y < mT.length) : Cond.code (mNm y) (mCode y) (mMax y) (mRet y) ∈ aGW := by
  have hm : mI y ∈ mT := by
    unfold mI
    rw [List.getD_eq_getElem?_getD, List.getElem?_eq_getElem h]
    exact List.getElem_mem h
  obtain ⟨i, hi⟩ := pos_mem (f := fun q => Cond.code q.1 q.2.1 q.2.2.1 q.2.2.2.1) aMC_pos hm
  exact aGW_of hi rfl
set_option maxRecDepth 100000 in
theorem aMT_lt : aMT.all (fun q => decide (q.2.2.1 < mT.length)) = true := by decide +kernel
theorem aMT_link {o n y kd : Nat} (h : (o, n, y, kd) ∈ aMT) : Cond.code (mNm y) (mCode y) (mMax y) (mRet y) ∈ aGW ∧ Cond.initialized (mNm y).cls ∈ aGW ∧ ((mNm y).cls = cNm (mOwn y) ∧ (mNm y).cls ≠ "java/lang/invoke/MethodHandle" ∧ (mNm y).cls ≠ "java/lang/invoke/VarHandle" ∧ mMax y ≤ 60 ∧ (mOwn y < 7 ∨ kd ≠ 0)) ∧
    ((kd = 0 ∧ Cond.methodLink (cNm o) n (mNm y) ∈ aGW ∧ Cond.instanceMethod (mNm y) ∈ aGW ∧ Cond.selects (mNm y).cls (mNm y) (mNm y) ∈ aGW) ∨ (kd = 1 ∧ Cond.methodLink (cNm o) n (mNm y) ∈ aGW ∧ Cond.static (mNm y) ∈ aGW) ∨ (kd ≠ 0 ∧ kd ≠ 1 ∧ Cond.methodLinkNest (cNm o) n (mNm y) RX5 ∈ aNW ∧ Cond.static (mNm y) ∈ aGW)) := by
  have h1 := List.all_eq_true.mp aMT_side _ h
  have h2 := List.all_eq_true.mp aMT_lt _ h
  simp only [Bool.and_eq_true, Bool.or_eq_true, decide_eq_true_eq, bne_iff_ne] at h1 h2
  have g : ∀ x ∈ needM (o, n, y, kd), ∃ i : Nat, lw_tbl[i]? = some x := fun x hx => pos_mem2 aMT_pos h hx
  obtain ⟨⟨⟨⟨a1, a2⟩, a3⟩, a4⟩, a5⟩ := h1
  have hini : Cond.initialized (mNm y).cls ∈ aGW := by
    match kd with
    | 0 => obtain ⟨i, hi⟩ := g (.initialized (mNm y).cls) (by simp [needM]); exact aGW_of hi rfl
    | 1 => obtain ⟨i, hi⟩ := g (.initialized (mNm y).cls) (by simp [needM]); exact aGW_of hi rfl
    | k + 2 => obtain ⟨i, hi⟩ := g (.initialized (mNm y).cls) (by simp [needM]); exact aGW_of hi rfl
  refine ⟨aMC_code h2, hini, ⟨a1, a2, a3, a4, a5⟩, ?_⟩
  match kd, g with
  | 0, g =>
    obtain ⟨i, hi⟩ := g (.methodLink (cNm o) n (mNm y)) (by simp [needM])
    obtain ⟨j, hj⟩ := g (.instanceMethod (mNm y)) (by simp [needM])
    obtain ⟨k, hk⟩ := g (.selects (mNm y).cls (mNm y) (mNm y)) (by simp [needM])
    exact Or.inl ⟨rfl, aGW_of hi rfl, aGW_of hj rfl, aGW_of hk rfl⟩
  | 1, g =>
    obtain ⟨i, hi⟩ := g (.methodLink (cNm o) n (mNm y)) (by simp [needM])
    obtain ⟨j, hj⟩ := g (.static (mNm y)) (by simp [needM])
    exact Or.inr (Or.inl ⟨rfl, aGW_of hi rfl, aGW_of hj rfl⟩)
  | k + 2, g =>
    obtain ⟨i, hi⟩ := g (.methodLinkNest (cNm o) n (mNm y) RX5) (by simp [needM])
    obtain ⟨j, hj⟩ := g (.static (mNm y)) (by simp [needM])
    exact Or.inr (Or.inr ⟨by omega, by omega, aNW_of hi rfl, aGW_of hj rfl⟩)
/-! ===== the call ===== -/
theorem aPre_blind (G : aG) (sz : Nat) (args : List AV) (m : AM) : FrameBlind (aPre G sz args m) := by
  intro a U g mk q
  obtain ⟨q0, q1, qP, qK, qD, qN⟩ := q
  exact ⟨q0, q1, qP, va_K.moved (u := U) (U := U.calling g mk a) (Vm.Alike.refl U.vm) qK, qD, fun w hw => aNW_same (s := U) (U := U.calling g mk a) hw rfl (qN w hw)⟩
section CALL
variable {p : Program} {l : Launch} {e : Env} {R : Room} {s : State} {mm : MethodId} {args : Array Value} {below : List Frame} {meth : Method} {c : Code} {H : Heap} {locs : List Loc} {cells slots : Nat} {Qm : State → Prop}
theorem a_call {G : aG} {m : AM} {Q : APost} {A : Nat → Prop} {pc : Nat} {ls : Array Slot} {st0 rest : List Value} {a : Array Value} (hr : va_Run p l e R s mm args below meth c H locs cells slots 0 0 (F0 mm pc ls st0) rest (aPost G H.size m Q a) (va_A (wd G.1 G.2.2 m) H.size)) (hS : va_S A s.heap H locs) (hf : ∀ q, va_A (wd G.1 G.2.2 m) H.size q → A q)
    (kk : ∀ (r : Option Int32) (u : AM) (H1 : Heap) (locs1 : List Loc), Q r u → va_P G.2.1 vwCl (wd G.1 G.2.2 u) H1 → va_S A s.heap H1 locs1 → W p l e R s mm args below meth c H1 locs1 cells slots Qm (F0 mm (pc + 3) ls ((r.map Value.int).toList ++ rest))) : W p l e R s mm args below meth c H locs cells slots Qm (F0 mm pc ls st0) := by
  intro T hT X
  obtain ⟨v, st₀, t, T', L, h0, X', hL, e1, e2, ⟨⟨r, u, hv, hq, hb⟩, hz, hk⟩, st⟩ := hr T hT X
  cases hv
  rw [h0] at hz hk
  obtain ⟨t2, a1, b1⟩ := kk r u T'.heap (locs ++ L) hq (by rw [e1]; exact hb)
    ⟨Nat.le_trans hS.1 (by rw [e1]; exact hz), fun q h1 h2 => by rw [e1, hk q (Nat.lt_of_lt_of_le h1 hS.1) (fun z => h2 (hf q z))]; exact hS.2.1 q h1 h2, fun q hq => by
      rcases List.mem_append.mp hq with h | h
      · exact hS.2.2 q h
      · exact hf _ (hL q h)⟩ T' rfl X'
  exact ⟨t2, st t2 a1, b1⟩
end CALL
end
section
/-! ===== one instruction ===== -/
theorem p1_of {st : List AV} {f : Int32 → List AV → Prop} (h : p1 st f) : ∃ x r, st = .inl x :: r ∧ f x r := by
  unfold p1 at h
  split at h
  · exact ⟨_, _, rfl, h⟩
  · exact h.elim
theorem p2_of {st : List AV} {f : Int32 → Int32 → List AV → Prop} (h : p2 st f) : ∃ x y r, st = .inl y :: .inl x :: r ∧ f x y r := by
  unfold p2 at h
  split at h
  · exact ⟨_, _, _, rfl, h⟩
  · exact h.elim
theorem pr_of {st : List AV} {f : Nat → List AV → Prop} (h : pr st f) : ∃ x r, st = .inr x :: r ∧ f x r := by
  unfold pr at h
  split at h
  · exact ⟨_, _, rfl, h⟩
  · exact h.elim
theorem pobj_of {r ci : Nat} {f : List (Option Nat) → Prop} (h : pobj r ci f) : ∃ fs, shp[r]? = some (.inr (ci, fs)) ∧ f fs := by
  unfold pobj at h
  split at h
  · rename_i c fs hs
    obtain ⟨rfl, h⟩ := h
    exact ⟨fs, by rw [← shF_eq]; exact hs, h⟩
  · exact h.elim
theorem parr_of {r : Nat} {f : Nat → Nat → Prop} (h : parr r f) : ∃ t n, shp[r]? = some (.inl (t, n)) ∧ f t n := by
  unfold parr at h
  split at h
  · rename_i t n hs
    exact ⟨t, n, by rw [← shF_eq]; exact hs, h⟩
  · exact h.elim
theorem brP_of {k : Nat → AL → Prop} {c : Prop} {ls : AL} {ts : List (Nat × List Bool)} (h : brP k c ls ts) : ∃ t f, ts = [t, f] ∧ (c → k t.1 (amask t.2 ls)) ∧ (¬ c → k f.1 (amask f.2 ls)) := by
  unfold brP at h
  split at h
  · exact ⟨_, _, rfl, h⟩
  · exact h.elim
theorem brN_of {k : Nat → AL → Prop} {c : Prop} {ls : AL} {ts : List (Nat × List Bool)} (h : brN k c ls ts) : ∃ t f, ts = [t, f] ∧ (¬ c → k t.1 (amask t.2 ls)) ∧ (c → k f.1 (amask f.2 ls)) := by
  unfold brN at h
  split at h
  · exact ⟨_, _, rfl, h⟩
  · exact h.elim
theorem sw_in {k : Nat → AL → Prop} {x : Int32} {ls : AL} : ∀ (ts : List (Nat × List Bool)) (i j : Nat), swP k x ls i ts → j + 1 < ts.length → x = nI (i + j) → ∃ t, ts[j]? = some t ∧ k t.1 (amask t.2 ls)
  | [], _, _, h, _, _ => h.elim
  | [t], _, j, h, hj, _ => by simp at hj
  | t :: t' :: ts, i, 0, h, hj, hx => ⟨t, rfl, h.1 hx⟩
  | t :: t' :: ts, i, j + 1, h, hj, hx => by
    obtain ⟨q, h1, h2⟩ := sw_in (t' :: ts) (i + 1) j h.2 (by simp at hj ⊢; omega) (by rw [hx]; congr 1; omega)
    exact ⟨q, by simpa using h1, h2⟩
theorem sw_out {k : Nat → AL → Prop} {x : Int32} {ls : AL} : ∀ (ts : List (Nat × List Bool)) (i : Nat), swP k x ls i ts → ¬ (0 ≤ x.toInt ∧ x.toInt < ((i + (ts.length - 1) : Nat) : Int)) → ∃ t, ts[ts.length - 1]? = some t ∧ k t.1 (amask t.2 ls)
  | [], _, h, _ => h.elim
  | [t], i, h, hx => ⟨t, rfl, h (by simpa using hx)⟩
  | t :: t' :: ts, i, h, hx => by
    obtain ⟨q, h1, h2⟩ := sw_out (t' :: ts) (i + 1) h.2 (by simp at hx ⊢; omega)
    refine ⟨q, ?_, h2⟩
    simpa using h1
theorem cNm_cl : ∀ ci, ci < 7 → ∃ q, vwCl[ci]? = some q ∧ q.1 = cNm ci := by
  intro ci h
  have h2 : ci = 0 ∨ ci = 1 ∨ ci = 2 ∨ ci = 3 ∨ ci = 4 ∨ ci = 5 ∨ ci = 6 := by omega
  rcases h2 with rfl | rfl | rfl | rfl | rfl | rfl | rfl <;> exact ⟨_, rfl, rfl⟩
theorem wsY_good {y : Nat} (h : Cond.code (mNm y) (mCode y) (mMax y) (mRet y) ∈ aGW) : GoodIn aGW (wsY y) := by
  intro w hw
  rcases List.mem_cons.mp hw with rfl | h2
  · exact aGood h
  · exact aGood h2
section STEP
variable {D y : Nat} {Q : APost} {p : Program} {l : Launch} {e : Env} {R : Room} {s : State} {mm : MethodId} {args : Array Value} {below : List Frame} {meth : Method} {c : Code} {cells slots : Nat} {Qm : State → Prop} {A : Nat → Prop} {G : aG}
variable {pc : Nat} {v : Int32} {a b : Nat} {ts : List (Nat × List Bool)} {ls : AL} {st : List AV} {m : AM} {K : AL → List AV → AM → Prop} {k : Nat → AL → List AV → AM → Prop}
theorem a_get (hok : AOk D y Q p l e R s mm args below meth c cells slots Qm A G) {n : Nat} (hdec : decode (mCode y) pc = .ok (.getfield n, 3)) (hm : (mOwn y, n, a, b, false) ∈ aFT ∨ (mOwn y, n, a, b, true) ∈ aFT)
    (hK : ∀ ls st m, K ls st m → AAt y p l e R s mm args below meth c cells slots Qm A G (pc + 3) ls st m) (h : stP (aCC D) D (mZr y) k Q (.getfield n) v a b ts ls st m K) : AAt y p l e R s mm args below meth c cells slots Qm A G pc ls st m := by
  intro H locs lsA hP hD hS hl
  obtain ⟨hx, hb, hml, hown, hts, hN, hk0, hA, hroom, hret⟩ := hok
  obtain ⟨q, r, rfl, h⟩ := pr_of h
  obtain ⟨fs, hs, h⟩ := pobj_of h
  have key : ∀ (f : Bool) (v : Value), (mOwn y, n, a, b, f) ∈ aFT → (fs.mapIdx (afl G.1 (m q)))[b]? = some v → W p l e R s mm args below meth c H locs cells slots Qm (F0 mm (pc + 3) lsA (v :: r.map (atr G.1))) → W p l e R s mm args below meth c H locs cells slots Qm (F0 mm pc lsA (.ref (G.1 q) :: r.map (atr G.1))) := by
    intro f v hm hv kk
    obtain ⟨C, T, N, hc, hbN, hT, hw⟩ := aFT_link hm
    have hin := aLay_ok _ (List.mem_of_getElem? hc)
    rcases hw with ⟨rfl, hw⟩ | ⟨rfl, hw⟩
    · exact va_get (ref := C) hx hb hts hin hown hk0 hP q (wd_obj hs) hc b hbN (hts _ hw) (fun x h9 => by rw [hT] at h9; exact h9) hv hdec kk
    · exact va_getN (ref := C) (host := RX5) hx hb hts hin hown hk0 hP q (wd_obj hs) hc b hbN (va_Nw.use rfl (hN _ hw)) (fun x h9 => by rw [hT] at h9; exact h9) hv hdec kk
  split at h
  · rename_i hfb
    have hv : (fs.mapIdx (afl G.1 (m q)))[b]? = some (.int (m q b)) := by rw [List.getElem?_mapIdx, hfb]; rfl
    rcases hm with hm | hm <;> exact key _ _ hm hv (hK _ _ _ h H locs lsA hP hD hS hl)
  · rename_i q' hfb
    have hv : (fs.mapIdx (afl G.1 (m q)))[b]? = some (.ref (G.1 q')) := by rw [List.getElem?_mapIdx, hfb]; rfl
    rcases hm with hm | hm <;> exact key _ _ hm hv (hK _ _ _ h H locs lsA hP hD hS hl)
  · exact h.elim
theorem a_put (hok : AOk D y Q p l e R s mm args below meth c cells slots Qm A G) {n : Nat} (hdec : decode (mCode y) pc = .ok (.putfield n, 3)) (hm : (mOwn y, n, a, b, false) ∈ aFT ∨ (mOwn y, n, a, b, true) ∈ aFT)
    (hty : ∀ (C : String) (T : u_T) (N : Nat), vwCl[a]? = some (C, T, N) → (T b).2.2.2 = false ∧ ((v = 0 ∧ parseFieldDescriptor (T b).2.2.1 = some .int) ∨ parseFieldDescriptor (T b).2.2.1 = some .boolean))
    (hK : ∀ ls st m, K ls st m → AAt y p l e R s mm args below meth c cells slots Qm A G (pc + 3) ls st m) (h : stP (aCC D) D (mZr y) k Q (.putfield n) v a b ts ls st m K) (hv0 : ∀ (C : String) (T : u_T) (N : Nat), vwCl[a]? = some (C, T, N) → parseFieldDescriptor (T b).2.2.1 = some .boolean → v ≠ 0) : AAt y p l e R s mm args below meth c cells slots Qm A G pc ls st m := by
  intro H locs lsA hP hD hS hl
  obtain ⟨hx, hb, hml, hown, hts, hN, hk0, hA, hroom, hret⟩ := hok
  obtain ⟨x, r0, rfl, h⟩ := p1_of h
  obtain ⟨q, r, rfl, h⟩ := pr_of h
  obtain ⟨fs, hs, h⟩ := pobj_of h
  split at h
  · rename_i hfb
    obtain ⟨hz, h⟩ := h
    have hlen : b < (fs.mapIdx (afl G.1 (m q))).length := by simp; exact (List.getElem?_eq_some_iff.mp hfb).1
    have fin : ∀ (H1 : Heap) (locs1 : List Loc), va_P G.2.1 vwCl ((wd G.1 G.2.2 m).set q (G.1 q, .inr (a, (fs.mapIdx (afl G.1 (m q))).set b (.int x)))) H1 → va_D A ((wd G.1 G.2.2 m).set q (G.1 q, .inr (a, (fs.mapIdx (afl G.1 (m q))).set b (.int x)))) → va_S A s.heap H1 locs1 → W p l e R s mm args below meth c H1 locs1 cells slots Qm (F0 mm (pc + 3) lsA (r.map (atr G.1))) := by
      intro H1 locs1 hP1 hD1 hS1
      rw [wd_set_obj hs hfb] at hP1 hD1
      exact hK _ _ _ h H1 locs1 lsA hP1 hD1 hS1 hl
    have key : ∀ f : Bool, (mOwn y, n, a, b, f) ∈ aFT → W p l e R s mm args below meth c H locs cells slots Qm (F0 mm pc lsA (.int x :: .ref (G.1 q) :: r.map (atr G.1))) := by
      intro f hm
      obtain ⟨C, T, N, hc, hbN, hT, hw⟩ := aFT_link hm
      have hin := aLay_ok _ (List.mem_of_getElem? hc)
      obtain ⟨ty0, hty0, hnm⟩ := aTy_ok _ (List.mem_of_getElem? hc)
      obtain ⟨hfin, hd⟩ := hty C T N hc
      have hd2 : ∃ ty : FieldType, parseFieldDescriptor (T b).2.2.1 = some ty ∧ narrow ty (.int x) = .int x ∧ fits ty (.int x) = true := by
        rcases hd with ⟨-, hd⟩ | hd
        · exact ⟨.int, hd, rfl, rfl⟩
        · refine ⟨.boolean, hd, ?_⟩
          have hv1 := hv0 C T N hc hd
          rcases hz with hz | rfl | rfl
          · exact absurd hz hv1
          · exact ⟨rfl, rfl⟩
          · exact ⟨rfl, rfl⟩
      obtain ⟨ty, hd, hn, hfit⟩ := hd2
      rcases hw with ⟨rfl, hw⟩ | ⟨rfl, hw⟩
      · exact va_put (ref := C) hx hb hts hin ty0 hty0 hnm hown hk0 hP hD hS q (wd_obj hs) hc b hbN (hts _ hw) (fun x h9 => by rw [hT] at h9; exact h9) hfin hd hn hfit hlen hdec fin
      · exact va_putN (ref := C) (host := RX5) hx hb hts hin ty0 hty0 hnm hown hk0 hP hD hS q (wd_obj hs) hc b hbN (va_Nw.use rfl (hN _ hw)) (fun x h9 => by rw [hT] at h9; exact h9) hfin hd hn hfit hlen hdec fin
    rcases hm with hm | hm <;> exact key _ hm
  · exact h.elim
theorem a_join {A : Nat → Prop} {H : Heap} {locs : List Loc} (hD : va_D A (wd G.1 G.2.2 m)) (hS : va_S A s.heap H locs) (hA : ∀ q, s.heap.size ≤ q → A q) : ∀ q, va_A (wd G.1 G.2.2 m) H.size q → A q := by
  intro q h
  rcases h with ⟨k, e, h⟩ | h
  · exact hD.2 k (q, e) h
  · exact hA q (Nat.le_trans hS.1 h)
theorem a_room {d : Nat} (hd : d < D) (hr : D ≤ R.frames ∧ 100 * D ≤ R.locals ∧ cells ≤ R.cells ∧ slots ≤ R.slots) {x : Nat} (hx : x ≤ 60) : (aRm d).frames + 1 ≤ R.frames ∧ 8 + (x + 11) + (aRm d).locals ≤ R.locals := by
  obtain ⟨h1, h2, -, -⟩ := hr
  refine ⟨?_, ?_⟩
  · show d + 1 ≤ R.frames
    omega
  · show 8 + (x + 11) + 100 * d ≤ R.locals
    omega
theorem a_cat (adr : Nat → Nat) (st : List AV) (h : st.length ≤ 8) : ((st.map (atr adr)).map fun v => v.category).sum ≤ 8 := by
  have e : ∀ st : List AV, ((st.map (atr adr)).map fun v => v.category).sum = st.length := by
    intro st
    induction st with
    | nil => rfl
    | cons x t ih => simp only [List.map_cons, List.sum_cons, List.length_cons, atr_cat, ih]; omega
  rw [e]; exact h
theorem a_pushed (adr : Nat → Nat) (r : Option Int32) (st : List AV) : (apush r st).map (atr adr) = (r.map Value.int).toList ++ st.map (atr adr) := by cases r <;> rfl
theorem a_pre {G : aG} {H : Heap} (hk0 : va_K G.2.1 vwCl (atys G.2.2) s) (hN : ∀ w ∈ aNW, va_Nw w s) (hP : va_P G.2.1 vwCl (wd G.1 G.2.2 m) H) (hD : va_D A (wd G.1 G.2.2 m)) (as : List AV) (U : State) (hU : U.heap = H) (hW : s.WarmedH U.vm) : aPre G H.size as m (as.map (atr G.1)).toArray U :=
  ⟨rfl, by rw [hU], by rw [hU]; exact hP, va_K.moved hW.alike hk0, hD.weaken (fun _ _ _ _ => trivial), fun w hw => aNW_warm hw hW (hN w hw)⟩
theorem a_callV (hok : AOk D y Q p l e R s mm args below meth c cells slots Qm A G) {n : Nat} (hdec : decode (mCode y) pc = .ok (.invokevirtual n, 3)) (hm : (mOwn y, n, a, 0) ∈ aMT) (hpar : ((parseMethodDescriptor (mNm a).desc).map (fun d => d.parameters.length)) = some (b - 1)) (hts1 : ∀ t, ts = [t] → t.1 = mOwn a)
    (hK : ∀ ls st m, K ls st m → AAt y p l e R s mm args below meth c cells slots Qm A G (pc + 3) ls st m) (h : stP (aCC D) D (mZr y) k Q (.invokevirtual n) v a b ts ls st m K) : AAt y p l e R s mm args below meth c cells slots Qm A G pc ls st m := by
  intro H locs lsA hP hD hS hl
  obtain ⟨hx, hb, hml, hown, hts, hN, hk0, hA, hroom, hret⟩ := hok
  simp only [stP] at h
  split at h
  · rename_i t
    split at h
    · rename_i q as hst
      obtain ⟨fs, hs, hlen, hrest, Q', ⟨d, hd, hC⟩, hcont⟩ := pobj_of h
      have ht1 : t.1 = mOwn a := hts1 t rfl
      obtain ⟨hcode, hini, ⟨hcls, hd1, hd2, hmax, hown7⟩, hkind⟩ := aMT_link hm
      rcases hkind with ⟨-, hl1, hl2, hl3⟩ | ⟨h0, -⟩ | ⟨h0, -⟩
      · have ho7 : mOwn a < 7 := by rcases hown7 with h | h; exact h; exact absurd rfl h
        obtain ⟨qc, hqc, hqn⟩ := cNm_cl (mOwn a) ho7
        have hst2 : st.map (atr G.1) = (as.map (atr G.1)).reverse ++ .ref (G.1 q) :: (st.drop b).map (atr G.1) := by
          have e1 : st.take b = as.reverse ++ [.inr q] := by
            have := congrArg List.reverse hst
            simpa using this
          have e2 : st = as.reverse ++ .inr q :: st.drop b := by
            have := (List.take_append_drop b st).symm
            rw [e1] at this
            simpa using this
          conv => lhs; rw [e2]
          simp [atr]
        rw [hst2]
        refine a_call (A := A) (G := G) (m := m) (Q := Q') (a := (Value.ref (G.1 q) :: as.map (atr G.1)).toArray) (va_runV (As := as.map (atr G.1)) (C := (mNm a).cls) (b := G.1 q) (Ts := aGW) (own := cNm (mOwn y)) (nL := mMax y) (n := b - 1) (bytes := mCode a) (maxL := mMax a) (ret := mRet a) ⟨hx, hb, hml, hown, hts⟩ (hC l G H.size) ⟨callB_of (b - 1) hts (wsY_good hcode) rfl rfl rfl (hts _ hini) (hts _ hl1) ⟨hd1, hd2, hpar⟩ (a_room hd hroom hmax), hts _ hl2, hts _ hl3⟩ ⟨aPre_blind _ _ _ _, ?_, fun U hU hW => a_pre hk0 hN hP hD (.inr q :: as) U hU hW⟩ rfl (by rw [List.length_map]; omega) (hl.1) rfl (lv_room (a_cat _ _ hrest)) hdec ⟨by simpa using hroom.2.2.1, by simpa using hroom.2.2.2⟩) hS (a_join hD hS hA) (fun r u H1 locs1 hq hP1 hS1 => ?_)
        · rw [hcls, ← hqn]
          rw [ht1] at hs
          exact va_recv hk0 hP hqc (wd_obj hs)
        · have := hK _ _ _ (hcont r u hq) H1 locs1 lsA hP1 (wd_D _ hD) hS1 hl
          rw [a_pushed] at this
          exact this
      · exact absurd h0 (by decide)
      · exact absurd rfl h0
    · exact h.elim
  · exact h.elim
theorem a_callS (hok : AOk D y Q p l e R s mm args below meth c cells slots Qm A G) {n : Nat} (hdec : decode (mCode y) pc = .ok (.invokestatic n, 3)) (hm : (mOwn y, n, a, 1) ∈ aMT ∨ (mOwn y, n, a, 2) ∈ aMT) (hpar : ((parseMethodDescriptor (mNm a).desc).map (fun d => d.parameters.length)) = some b)
    (hK : ∀ ls st m, K ls st m → AAt y p l e R s mm args below meth c cells slots Qm A G (pc + 3) ls st m) (h : stP (aCC D) D (mZr y) k Q (.invokestatic n) v a b [] ls st m K) : AAt y p l e R s mm args below meth c cells slots Qm A G pc ls st m := by
  intro H locs lsA hP hD hS hl
  obtain ⟨hx, hb, hml, hown, hts, hN, hk0, hA, hroom, hret⟩ := hok
  simp only [stP] at h
  obtain ⟨hlen, hrest, Q', ⟨d, hd, hC⟩, hcont⟩ := h
  have hst2 : st.map (atr G.1) = (((st.take b).reverse).map (atr G.1)).reverse ++ (st.drop b).map (atr G.1) := by
    rw [← List.map_reverse, List.reverse_reverse, ← List.map_append, List.take_append_drop]
  rw [hst2]
  have fin : ∀ (r : Option Int32) (u : AM) (H1 : Heap) (locs1 : List Loc), Q' r u → va_P G.2.1 vwCl (wd G.1 G.2.2 u) H1 → va_S A s.heap H1 locs1 → W p l e R s mm args below meth c H1 locs1 cells slots Qm (F0 mm (pc + 3) lsA ((r.map Value.int).toList ++ (st.drop b).map (atr G.1))) := by
    intro r u H1 locs1 hq hP1 hS1
    have := hK _ _ _ (hcont r u hq) H1 locs1 lsA hP1 (wd_D _ hD) hS1 hl
    rw [a_pushed] at this
    exact this
  have hln : (((st.take b).reverse).map (atr G.1)).length = b := by simp only [List.length_map, List.length_reverse]; exact hlen
  rcases hm with hm | hm
  · obtain ⟨hcode, hini, ⟨hcls, hd1, hd2, hmax, hown7⟩, hkind⟩ := aMT_link hm
    rcases hkind with ⟨h0, -⟩ | ⟨-, hl1, hl2⟩ | ⟨-, h0, -⟩
    · exact absurd h0 (by decide)
    · exact a_call (A := A) (G := G) (m := m) (Q := Q') (a := (((st.take b).reverse).map (atr G.1)).toArray) (va_runS (As := ((st.take b).reverse).map (atr G.1)) (Ts := aGW) (own := cNm (mOwn y)) (nL := mMax y) (n := b) (bytes := mCode a) (maxL := mMax a) (ret := mRet a) ⟨hx, hb, hml, hown, hts⟩ (hC l G H.size) ⟨callB_of b hts (wsY_good hcode) rfl rfl rfl (hts _ hini) (hts _ hl1) ⟨hd1, hd2, hpar⟩ (a_room hd hroom hmax), hts _ hl2⟩ ⟨aPre_blind _ _ _ _, fun U hU hW => a_pre hk0 hN hP hD _ U hU hW⟩ rfl hln (hl.1) rfl (lv_room (a_cat _ _ hrest)) hdec ⟨by simpa using hroom.2.2.1, by simpa using hroom.2.2.2⟩) hS (a_join hD hS hA) fin
    · exact absurd rfl h0
  · obtain ⟨hcode, hini, ⟨hcls, hd1, hd2, hmax, hown7⟩, hkind⟩ := aMT_link hm
    rcases hkind with ⟨h0, -⟩ | ⟨h0, -⟩ | ⟨-, -, hl1, hl2⟩
    · exact absurd h0 (by decide)
    · exact absurd h0 (by decide)
    · exact a_call (A := A) (G := G) (m := m) (Q := Q') (a := (((st.take b).reverse).map (atr G.1)).toArray) (va_runSN (As := ((st.take b).reverse).map (atr G.1)) (Ts := aGW) (own := cNm (mOwn y)) (host := RX5) (nL := mMax y) (n := b) (bytes := mCode a) (maxL := mMax a) (ret := mRet a) ⟨hx, hb, hml, hown, hts⟩ (hC l G H.size) ⟨va_cnB b hts (wsY_good hcode) rfl rfl rfl (hN _ hl1) (hts _ hini) ⟨hd1, hd2, hpar⟩ (a_room hd hroom hmax), hts _ hl2, trivial⟩ ⟨aPre_blind _ _ _ _, fun U hU hW => a_pre hk0 hN hP hD _ U hU hW⟩ rfl hln (hl.1) rfl (lv_room (a_cat _ _ hrest)) hdec ⟨by simpa using hroom.2.2.1, by simpa using hroom.2.2.2⟩) hS (a_join hD hS hA) fin
theorem a_copy (hok : AOk D y Q p l e R s mm args below meth c cells slots Qm A G) {n : Nat} (hdec : decode (mCode y) pc = .ok (.invokestatic n, 3)) (hm : (mOwn y, n) ∈ aAT) {t0 : List Bool}
    (hK : ∀ ls st m, K ls st m → AAt y p l e R s mm args below meth c cells slots Qm A G (pc + 3) ls st m) (h : stP (aCC D) D (mZr y) k Q (.invokestatic n) v a b ((0, t0) :: ts) ls st m K) : AAt y p l e R s mm args below meth c cells slots Qm A G pc ls st m := by
  intro H locs lsA hP hD hS hl
  obtain ⟨hx, hb, hml, hown, hts, hN, hk0, hA, hroom, hret⟩ := hok
  simp only [stP] at h
  obtain ⟨i, hi⟩ := pos_mem (f := fun q => Cond.methodLink (cNm q.1) q.2 arraycopyName) aAT_pos hm
  have hlink : Cond.methodLink (cNm (mOwn y)) n arraycopyName ∈ aGW := aGW_of hi rfl
  have hc3 : ∀ w ∈ [Cond.native arraycopyName, Cond.static arraycopyName, Cond.initialized "java/lang/System"], w ∈ aGW := by
    intro w hw
    obtain ⟨j, hj⟩ := pos_mem (f := id) aCp_pos hw
    have hg : goodWord w = true := by
      simp only [List.mem_cons, List.not_mem_nil, or_false] at hw
      rcases hw with rfl | rfl | rfl <;> rfl
    exact aGW_of hj hg
  split at h
  · rename_i n dp q1 sp q0 r
    obtain ⟨hrest, hD1, h⟩ := h
    obtain ⟨t0, n0, hs0, h⟩ := parr_of h
    obtain ⟨t1, n1, hs1, h⟩ := parr_of h
    obtain ⟨rfl, rfl, h1, h2, h3, h4, h5, h⟩ := h
    refine va_copyi (ty := .int) hx hb (hml.trans hl.1.symm) hown (hts _ hlink) (hts _ (hc3 _ (by simp))) (hts _ (hc3 _ (by simp))) (hts _ (hc3 _ (by simp))) hk0 hP hD hS q0 q1 0 0 (wd_arr hs0) (wd_arr hs1) rfl rfl rfl h1 h2 h3 h4 h5 (fun _ _ => rfl) (by omega) ?_ hdec (fun H1 locs1 hP1 hD1 hS1 => ?_)
    · have := a_cat G.1 r hrest
      have e : nativeFrameWords "java/lang/System" "arraycopy" 5 = 7 := by decide
      rw [e]
      omega
    · rw [wd_set_arr hs1] at hP1 hD1
      exact hK _ _ _ h H1 locs1 lsA hP1 hD1 hS1 hl
  · exact h.elim
theorem a_max (hok : AOk D y Q p l e R s mm args below meth c cells slots Qm A G) {n : Nat} (hdec : decode (mCode y) pc = .ok (.invokestatic n, 3)) (hm : (mOwn y, n) ∈ aXT) {t0 : List Bool}
    (hK : ∀ ls st m, K ls st m → AAt y p l e R s mm args below meth c cells slots Qm A G (pc + 3) ls st m) (h : stP (aCC D) D (mZr y) k Q (.invokestatic n) v a b ((1, t0) :: ts) ls st m K) : AAt y p l e R s mm args below meth c cells slots Qm A G pc ls st m := by
  intro H locs lsA hP hD hS hl
  obtain ⟨hx, hb, hml, hown, hts, hN, hk0, hA, hroom, hret⟩ := hok
  simp only [stP] at h
  obtain ⟨x, z, r, rfl, hrest, hD1, h2⟩ := p2_of h
  obtain ⟨i, hi⟩ := pos_mem (f := fun q => Cond.methodLink (cNm q.1) q.2 Lib.Math.max.name) aXT_pos hm
  have hlink : Cond.methodLink (cNm (mOwn y)) n Lib.Math.max.name ∈ aGW := aGW_of hi rfl
  have hc3 : ∀ w ∈ [Cond.static Lib.Math.max.name, Cond.initialized "java/lang/Math", Cond.code Lib.Math.max.name Lib.Math.max.code 2 (some .int)], w ∈ aGW := by
    intro w hw
    obtain ⟨j, hj⟩ := pos_mem (f := id) aXT_w hw
    have hg : goodWord w = true := by
      simp only [List.mem_cons, List.not_mem_nil, or_false] at hw
      rcases hw with rfl | rfl | rfl <;> rfl
    exact aGW_of hj hg
  have := a_cat G.1 r hrest
  exact va_mmax hx hb (hml.trans hl.1.symm) hown (hts _ hlink) (hts _ (hc3 _ (by simp))) (hts _ (hc3 _ (by simp))) (hts _ (hc3 _ (by simp))) (by omega) (by omega) hroom.2.2.1 hroom.2.2.2 hdec (hK _ _ _ h2 H locs lsA hP hD hS hl)
theorem a_min (hok : AOk D y Q p l e R s mm args below meth c cells slots Qm A G) {n : Nat} (hdec : decode (mCode y) pc = .ok (.invokestatic n, 3)) (hm : (mOwn y, n) ∈ aNT) {t0 : List Bool}
    (hK : ∀ ls st m, K ls st m → AAt y p l e R s mm args below meth c cells slots Qm A G (pc + 3) ls st m) (h : stP (aCC D) D (mZr y) k Q (.invokestatic n) v a b ((2, t0) :: ts) ls st m K) : AAt y p l e R s mm args below meth c cells slots Qm A G pc ls st m := by
  intro H locs lsA hP hD hS hl
  obtain ⟨hx, hb, hml, hown, hts, hN, hk0, hA, hroom, hret⟩ := hok
  simp only [stP] at h
  obtain ⟨x, z, r, rfl, hrest, hD1, h2⟩ := p2_of h
  obtain ⟨i, hi⟩ := pos_mem (f := fun q => Cond.methodLink (cNm q.1) q.2 Lib.Math.min.name) aNT_pos hm
  have hlink : Cond.methodLink (cNm (mOwn y)) n Lib.Math.min.name ∈ aGW := aGW_of hi rfl
  have hc3 : ∀ w ∈ [Cond.static Lib.Math.min.name, Cond.initialized "java/lang/Math", Cond.code Lib.Math.min.name Lib.Math.min.code 2 (some .int)], w ∈ aGW := by
    intro w hw
    obtain ⟨j, hj⟩ := pos_mem (f := id) aNT_w hw
    have hg : goodWord w = true := by
      simp only [List.mem_cons, List.not_mem_nil, or_false] at hw
      rcases hw with rfl | rfl | rfl <;> rfl
    exact aGW_of hj hg
  have := a_cat G.1 r hrest
  exact va_mmin hx hb (hml.trans hl.1.symm) hown (hts _ hlink) (hts _ (hc3 _ (by simp))) (hts _ (hc3 _ (by simp))) (hts _ (hc3 _ (by simp))) (by omega) (by omega) hroom.2.2.1 hroom.2.2.2 hdec (hK _ _ _ h2 H locs lsA hP hD hS hl)
end STEP
end
section
section STEP2
variable {D y : Nat} {Q : APost} {p : Program} {l : Launch} {e : Env} {R : Room} {s : State} {mm : MethodId} {args : Array Value} {below : List Frame} {meth : Method} {c : Code} {cells slots : Nat} {Qm : State → Prop} {A : Nat → Prop} {G : aG}
variable {pc : Nat} {v : Int32} {a b : Nat} {ts : List (Nat × List Bool)} {ls : AL} {st : List AV} {m : AM} {K : AL → List AV → AM → Prop} {k : Nat → AL → List AV → AM → Prop}
set_option maxHeartbeats 4000000 in
theorem a_step (hok : AOk D y Q p l e R s mm args below meth c cells slots Qm A G) {len : Nat} {i : Instr} (hdec : decode (mCode y) pc = .ok (i, len)) (hchk : chkI (mOwn y) (mMax y) (mRet y) i len v a b pc ts = true)
    (hK : ∀ ls st m, K ls st m → AAt y p l e R s mm args below meth c cells slots Qm A G (pc + len) ls st m) (hk : ∀ t ls st m, k t ls st m → AAt y p l e R s mm args below meth c cells slots Qm A G t ls st m)
    (h : stP (aCC D) D (mZr y) k Q i v a b ts ls st m K) (hnop : i ≠ .nop) : AAt y p l e R s mm args below meth c cells slots Qm A G pc ls st m := by
  have hok0 := hok
  obtain ⟨hx, hb, hml, hown, hts, hN, hk0, hA, hroom, hret⟩ := hok
  cases i
  case iconst n =>
    simp only [chkI, Bool.and_eq_true, beq_iff_eq, decide_eq_true_eq] at hchk
    obtain ⟨rfl, hv⟩ := hchk
    intro H locs lsA hP hD hS hl
    exact lv_iconst hx hb hdec hv (hK _ _ _ h H locs lsA hP hD hS hl)
  case bipush n =>
    simp only [chkI, Bool.and_eq_true, beq_iff_eq, decide_eq_true_eq] at hchk
    obtain ⟨rfl, hv⟩ := hchk
    intro H locs lsA hP hD hS hl
    exact lv_bipush hx hb hdec hv (hK _ _ _ h H locs lsA hP hD hS hl)
  case sipush n =>
    simp only [chkI, Bool.and_eq_true, beq_iff_eq, decide_eq_true_eq] at hchk
    obtain ⟨rfl, hv⟩ := hchk
    intro H locs lsA hP hD hS hl
    exact lv_sipush hx hb hdec hv (hK _ _ _ h H locs lsA hP hD hS hl)
  case ldc_w n =>
    simp only [chkI, Bool.and_eq_true, beq_iff_eq, decide_eq_true_eq] at hchk
    obtain ⟨rfl, hv⟩ := hchk
    intro H locs lsA hP hD hS hl
    obtain ⟨j, hj⟩ := pos_mem (f := fun q => Cond.constant (cNm q.1) q.2.1 q.2.2) aKT_pos hv
    exact lv_ldcw hx hb hown (hts _ (aGW_of hj rfl)) hdec (hK _ _ _ h H locs lsA hP hD hS hl)
  case iload n =>
    simp only [chkI, Bool.and_eq_true, beq_iff_eq, decide_eq_true_eq] at hchk
    obtain ⟨rfl, rfl⟩ := hchk
    intro H locs lsA hP hD hS hl
    simp only [stP] at h
    split at h
    · rename_i x hx2
      exact lv_iload hx hb hdec (hl.2.2 _ _ hx2) (hK _ _ _ h H locs lsA hP hD hS hl)
    · exact h.elim
  case iload_n n =>
    simp only [chkI, Bool.and_eq_true, beq_iff_eq, decide_eq_true_eq] at hchk
    obtain ⟨rfl, hn⟩ := hchk
    intro H locs lsA hP hD hS hl
    simp only [stP] at h
    split at h
    · rename_i x hx2
      exact lv_iload_n hx hb hdec hn (hl.2.2 _ _ hx2) (hK _ _ _ h H locs lsA hP hD hS hl)
    · exact h.elim
  case aload_n n =>
    simp only [chkI, Bool.and_eq_true, beq_iff_eq, decide_eq_true_eq] at hchk
    obtain ⟨rfl, hn⟩ := hchk
    intro H locs lsA hP hD hS hl
    simp only [stP] at h
    split at h
    · rename_i x hx2
      exact lv_aload_n hx hb hdec hn (hl.2.2 _ _ hx2) (hK _ _ _ h H locs lsA hP hD hS hl)
    · exact h.elim
  case istore n =>
    simp only [chkI, Bool.and_eq_true, beq_iff_eq, decide_eq_true_eq] at hchk
    obtain ⟨⟨rfl, rfl⟩, hn⟩ := hchk
    intro H locs lsA hP hD hS hl
    obtain ⟨x, r, rfl, h⟩ := p1_of h
    exact lv_istore hx hb hdec hl.lv hn rfl (fun ls' hl' => hK _ _ _ h H locs ls' hP hD hS (alh.set hl'))
  case istore_n n =>
    simp only [chkI, Bool.and_eq_true, beq_iff_eq, decide_eq_true_eq] at hchk
    obtain ⟨⟨rfl, ha⟩, hn⟩ := hchk
    intro H locs lsA hP hD hS hl
    obtain ⟨x, r, rfl, h⟩ := p1_of h
    exact lv_istore_n hx hb hdec ha hl.lv hn rfl (fun ls' hl' => hK _ _ _ h H locs ls' hP hD hS (alh.set hl'))
  case iinc n j =>
    simp only [chkI, Bool.and_eq_true, beq_iff_eq, decide_eq_true_eq] at hchk
    obtain ⟨⟨⟨rfl, rfl⟩, hn⟩, hv⟩ := hchk
    intro H locs lsA hP hD hS hl
    simp only [stP] at h
    split at h
    · rename_i x hx2
      obtain ⟨kk, hkk⟩ := List.mem_iff_getElem?.mp (mem_als (adr := G.1) hx2)
      exact lv_iinc (k := kk) (x := x) (v := x + v) hx hb hdec hl.lv hkk (by rw [hv]) hn rfl (fun ls' hl' => hK _ _ _ h H locs ls' hP hD hS (alh.set (v := .inl (x + v)) hl'))
    · exact h.elim
  case iadd =>
    simp only [chkI, beq_iff_eq] at hchk
    obtain rfl := hchk
    intro H locs lsA hP hD hS hl
    obtain ⟨x, y, r, rfl, h⟩ := p2_of h
    exact lv_iadd hx hb hdec (hK _ _ _ h H locs lsA hP hD hS hl)
  case isub =>
    simp only [chkI, beq_iff_eq] at hchk
    obtain rfl := hchk
    intro H locs lsA hP hD hS hl
    obtain ⟨x, y, r, rfl, h⟩ := p2_of h
    exact lv_isub hx hb hdec (hK _ _ _ h H locs lsA hP hD hS hl)
  case imul =>
    simp only [chkI, beq_iff_eq] at hchk
    obtain rfl := hchk
    intro H locs lsA hP hD hS hl
    obtain ⟨x, y, r, rfl, h⟩ := p2_of h
    exact lv_imul hx hb hdec (hK _ _ _ h H locs lsA hP hD hS hl)
  case iand =>
    simp only [chkI, beq_iff_eq] at hchk
    obtain rfl := hchk
    intro H locs lsA hP hD hS hl
    obtain ⟨x, y, r, rfl, h⟩ := p2_of h
    exact lv_iand hx hb hdec (hK _ _ _ h H locs lsA hP hD hS hl)
  case ior =>
    simp only [chkI, beq_iff_eq] at hchk
    obtain rfl := hchk
    intro H locs lsA hP hD hS hl
    obtain ⟨x, y, r, rfl, h⟩ := p2_of h
    exact lv_ior hx hb hdec (hK _ _ _ h H locs lsA hP hD hS hl)
  case ixor =>
    simp only [chkI, beq_iff_eq] at hchk
    obtain rfl := hchk
    intro H locs lsA hP hD hS hl
    obtain ⟨x, y, r, rfl, h⟩ := p2_of h
    exact lv_ixor hx hb hdec (hK _ _ _ h H locs lsA hP hD hS hl)
  case ishl =>
    simp only [chkI, beq_iff_eq] at hchk
    obtain rfl := hchk
    intro H locs lsA hP hD hS hl
    obtain ⟨x, y, r, rfl, h⟩ := p2_of h
    exact lv_ishl hx hb hdec (hK _ _ _ h H locs lsA hP hD hS hl)
  case ishr =>
    simp only [chkI, beq_iff_eq] at hchk
    obtain rfl := hchk
    intro H locs lsA hP hD hS hl
    obtain ⟨x, y, r, rfl, h⟩ := p2_of h
    exact lv_ishr hx hb hdec (hK _ _ _ h H locs lsA hP hD hS hl)
  case iushr =>
    simp only [chkI, beq_iff_eq] at hchk
    obtain rfl := hchk
    intro H locs lsA hP hD hS hl
    obtain ⟨x, y, r, rfl, h⟩ := p2_of h
    exact lv_iushr hx hb hdec rfl (hK _ _ _ h H locs lsA hP hD hS hl)
  case i2b =>
    simp only [chkI, beq_iff_eq] at hchk
    obtain rfl := hchk
    intro H locs lsA hP hD hS hl
    obtain ⟨x, r, rfl, h⟩ := p1_of h
    exact lv_i2b hx hb hdec rfl (hK _ _ _ h H locs lsA hP hD hS hl)
  case dup =>
    simp only [chkI, beq_iff_eq] at hchk
    obtain rfl := hchk
    intro H locs lsA hP hD hS hl
    simp only [stP] at h
    split at h
    · exact lv_dup hx hb hdec (atr_cat _ _) (hK _ _ _ h H locs lsA hP hD hS hl)
    · exact h.elim
  case dup2 =>
    simp only [chkI, beq_iff_eq] at hchk
    obtain rfl := hchk
    intro H locs lsA hP hD hS hl
    simp only [stP] at h
    split at h
    · exact lv_dup2_11 hx hb hdec (atr_cat _ _) (atr_cat _ _) (hK _ _ _ h H locs lsA hP hD hS hl)
    · exact h.elim
  case pop =>
    simp only [chkI, beq_iff_eq] at hchk
    obtain rfl := hchk
    intro H locs lsA hP hD hS hl
    simp only [stP] at h
    split at h
    · exact lv_pop hx hb hdec (atr_cat _ _) (hK _ _ _ h H locs lsA hP hD hS hl)
    · exact h.elim
  case getfield n =>
    simp only [chkI, Bool.and_eq_true, Bool.or_eq_true, beq_iff_eq, decide_eq_true_eq] at hchk
    obtain ⟨rfl, hm⟩ := hchk
    exact a_get hok0 hdec hm hK h
  case putfield n =>
    simp only [chkI, Bool.and_eq_true, Bool.or_eq_true, beq_iff_eq, decide_eq_true_eq] at hchk
    obtain ⟨⟨rfl, hm⟩, ht⟩ := hchk
    refine a_put hok0 hdec hm ?_ hK h ?_
    · intro C T N hc
      rw [hc] at ht
      simp only [Bool.and_eq_true, Bool.or_eq_true, beq_iff_eq, decide_eq_true_eq] at ht
      exact ⟨ht.1, ht.2.imp id (fun q => q.2)⟩
    · intro C T N hc hbool
      rw [hc] at ht
      simp only [Bool.and_eq_true, Bool.or_eq_true, beq_iff_eq, decide_eq_true_eq] at ht
      rcases ht.2 with ⟨-, q⟩ | ⟨q, -⟩
      · rw [q] at hbool; cases hbool
      · rw [q]; decide
  case arraylength =>
    simp only [chkI, beq_iff_eq] at hchk
    obtain rfl := hchk
    intro H locs lsA hP hD hS hl
    obtain ⟨q, r, rfl, h⟩ := pr_of h
    obtain ⟨t, n, hs, h⟩ := parr_of h
    have htt : t < 3 := by
      have hall : shp.all (fun e => match e with | .inl (t, _) => decide (t < 3) | .inr _ => true) = true := by decide +kernel
      simpa using List.all_eq_true.mp hall _ (List.mem_of_getElem? hs)
    have h3 : ∃ ty, (atys G.2.2)[t]? = some (G.2.2 t, ty) := by
      have : t = 0 ∨ t = 1 ∨ t = 2 := by omega
      rcases this with rfl | rfl | rfl <;> exact ⟨_, rfl⟩
    obtain ⟨ty, hty⟩ := h3
    exact va_alen hx hb hk0 hP q t (wd_arr hs) hty rfl hdec (hK _ _ _ h H locs lsA hP hD hS hl)
  case iaload =>
    simp only [chkI, beq_iff_eq] at hchk
    obtain rfl := hchk
    intro H locs lsA hP hD hS hl
    obtain ⟨j, r0, rfl, h⟩ := p1_of h
    obtain ⟨q, r, rfl, h⟩ := pr_of h
    obtain ⟨t, n, hs, rfl, hin, h⟩ := parr_of h
    exact va_iald hx hb hk0 hP q 0 (wd_arr hs) rfl hin hdec (hK _ _ _ h H locs lsA hP hD hS hl)
  case baload =>
    simp only [chkI, beq_iff_eq] at hchk
    obtain rfl := hchk
    intro H locs lsA hP hD hS hl
    obtain ⟨j, r0, rfl, h⟩ := p1_of h
    obtain ⟨q, r, rfl, h⟩ := pr_of h
    obtain ⟨t, n, hs, ht, hin, h⟩ := parr_of h
    rcases ht with rfl | rfl
    · exact va_bald hx hb hk0 hP q 1 (wd_arr hs) rfl hin hdec (hK _ _ _ h H locs lsA hP hD hS hl)
    · exact va_zald hx hb hk0 hP q 2 (wd_arr hs) rfl hin hdec (hK _ _ _ h H locs lsA hP hD hS hl)
  case iastore =>
    simp only [chkI, beq_iff_eq] at hchk
    obtain rfl := hchk
    intro H locs lsA hP hD hS hl
    obtain ⟨j, x, r0, rfl, h⟩ := p2_of h
    obtain ⟨q, r, rfl, h⟩ := pr_of h
    obtain ⟨t, n, hs, rfl, hin, h⟩ := parr_of h
    refine va_iast hx hb hk0 hP hD hS q 0 (wd_arr hs) rfl hin hdec (fun H1 locs1 hP1 hD1 hS1 => ?_)
    rw [wd_set_arr hs] at hP1 hD1
    exact hK _ _ _ h H1 locs1 lsA hP1 hD1 hS1 hl
  case bastore =>
    simp only [chkI, beq_iff_eq] at hchk
    obtain rfl := hchk
    intro H locs lsA hP hD hS hl
    obtain ⟨j, x, r0, rfl, h⟩ := p2_of h
    obtain ⟨q, r, rfl, h⟩ := pr_of h
    obtain ⟨t, n, hs, hin, h1, h2, ht⟩ := parr_of h
    rcases ht with rfl | rfl
    · refine va_bast hx hb hk0 hP hD hS q 1 (wd_arr hs) rfl hin hdec (fun H1 locs1 hP1 hD1 hS1 => ?_)
      rw [wd_set_arr hs] at hP1 hD1
      exact hK _ _ _ (h1 rfl) H1 locs1 lsA hP1 hD1 hS1 hl
    · refine va_zast hx hb hk0 hP hD hS q 2 (wd_arr hs) rfl hin hdec (fun H1 locs1 hP1 hD1 hS1 => ?_)
      rw [wd_set_arr hs] at hP1 hD1
      exact hK _ _ _ (h2 rfl) H1 locs1 lsA hP1 hD1 hS1 hl
  case if_icmp cnd off =>
    simp only [chkI, Bool.and_eq_true, beq_iff_eq] at hchk
    obtain ⟨rfl, hts2⟩ := hchk
    intro H locs lsA hP hD hS hl
    cases cnd
    case ne =>
      obtain ⟨x, y, r, rfl, h2⟩ := p2_of h
      obtain ⟨t, f, rfl, ht, hf⟩ := brN_of h2
      simp only [Bool.and_eq_true, beq_iff_eq, decide_eq_true_eq] at hts2
      exact lv_icmp_ne hx hb hdec hts2.1 (fun q => hk _ _ _ _ (ht q) H locs lsA hP hD hS (hl.mask _)) (fun q => hts2.2 ▸ hk _ _ _ _ (hf q) H locs lsA hP hD hS (hl.mask _))
    case eq =>
      obtain ⟨x, y, r, rfl, h2⟩ := p2_of h
      obtain ⟨t, f, rfl, ht, hf⟩ := brP_of h2
      simp only [Bool.and_eq_true, beq_iff_eq, decide_eq_true_eq] at hts2
      exact lv_icmp_eq hx hb hdec hts2.1 (fun q => hk _ _ _ _ (ht q) H locs lsA hP hD hS (hl.mask _)) (fun q => hts2.2 ▸ hk _ _ _ _ (hf q) H locs lsA hP hD hS (hl.mask _))
    case lt =>
      obtain ⟨x, y, r, rfl, h2⟩ := p2_of h
      obtain ⟨t, f, rfl, ht, hf⟩ := brP_of h2
      simp only [Bool.and_eq_true, beq_iff_eq, decide_eq_true_eq] at hts2
      exact lv_icmp_lt hx hb hdec hts2.1 (fun q => hk _ _ _ _ (ht q) H locs lsA hP hD hS (hl.mask _)) (fun q => hts2.2 ▸ hk _ _ _ _ (hf q) H locs lsA hP hD hS (hl.mask _))
    case ge =>
      obtain ⟨x, y, r, rfl, h2⟩ := p2_of h
      obtain ⟨t, f, rfl, ht, hf⟩ := brP_of h2
      simp only [Bool.and_eq_true, beq_iff_eq, decide_eq_true_eq] at hts2
      exact lv_icmp_ge hx hb hdec hts2.1 (fun q => hk _ _ _ _ (ht q) H locs lsA hP hD hS (hl.mask _)) (fun q => hts2.2 ▸ hk _ _ _ _ (hf q) H locs lsA hP hD hS (hl.mask _))
    case gt =>
      obtain ⟨x, y, r, rfl, h2⟩ := p2_of h
      obtain ⟨t, f, rfl, ht, hf⟩ := brP_of h2
      simp only [Bool.and_eq_true, beq_iff_eq, decide_eq_true_eq] at hts2
      exact lv_icmp_gt hx hb hdec hts2.1 (fun q => hk _ _ _ _ (ht q) H locs lsA hP hD hS (hl.mask _)) (fun q => hts2.2 ▸ hk _ _ _ _ (hf q) H locs lsA hP hD hS (hl.mask _))
    case le =>
      obtain ⟨x, y, r, rfl, h2⟩ := p2_of h
      obtain ⟨t, f, rfl, ht, hf⟩ := brP_of h2
      simp only [Bool.and_eq_true, beq_iff_eq, decide_eq_true_eq] at hts2
      exact lv_icmp_le hx hb hdec hts2.1 (fun q => hk _ _ _ _ (ht q) H locs lsA hP hD hS (hl.mask _)) (fun q => hts2.2 ▸ hk _ _ _ _ (hf q) H locs lsA hP hD hS (hl.mask _))
  case ifCond cnd off =>
    simp only [chkI, Bool.and_eq_true, beq_iff_eq] at hchk
    obtain ⟨rfl, hts2⟩ := hchk
    intro H locs lsA hP hD hS hl
    cases cnd
    case ne =>
      obtain ⟨x, r, rfl, h2⟩ := p1_of h
      obtain ⟨t, f, rfl, ht, hf⟩ := brN_of h2
      simp only [Bool.and_eq_true, beq_iff_eq, decide_eq_true_eq] at hts2
      exact lv_if_ne hx hb hdec hts2.1 (fun q => hk _ _ _ _ (ht q) H locs lsA hP hD hS (hl.mask _)) (fun q => hts2.2 ▸ hk _ _ _ _ (hf q) H locs lsA hP hD hS (hl.mask _))
    case eq =>
      obtain ⟨x, r, rfl, h2⟩ := p1_of h
      obtain ⟨t, f, rfl, ht, hf⟩ := brP_of h2
      simp only [Bool.and_eq_true, beq_iff_eq, decide_eq_true_eq] at hts2
      exact lv_if_eq hx hb hdec hts2.1 (fun q => hk _ _ _ _ (ht q) H locs lsA hP hD hS (hl.mask _)) (fun q => hts2.2 ▸ hk _ _ _ _ (hf q) H locs lsA hP hD hS (hl.mask _))
    case lt =>
      obtain ⟨x, r, rfl, h2⟩ := p1_of h
      obtain ⟨t, f, rfl, ht, hf⟩ := brP_of h2
      simp only [Bool.and_eq_true, beq_iff_eq, decide_eq_true_eq] at hts2
      exact lv_if_lt hx hb hdec hts2.1 (fun q => hk _ _ _ _ (ht q) H locs lsA hP hD hS (hl.mask _)) (fun q => hts2.2 ▸ hk _ _ _ _ (hf q) H locs lsA hP hD hS (hl.mask _))
    case ge =>
      obtain ⟨x, r, rfl, h2⟩ := p1_of h
      obtain ⟨t, f, rfl, ht, hf⟩ := brP_of h2
      simp only [Bool.and_eq_true, beq_iff_eq, decide_eq_true_eq] at hts2
      exact lv_if_ge hx hb hdec hts2.1 (fun q => hk _ _ _ _ (ht q) H locs lsA hP hD hS (hl.mask _)) (fun q => hts2.2 ▸ hk _ _ _ _ (hf q) H locs lsA hP hD hS (hl.mask _))
    case gt => exact h.elim
    case le => exact h.elim
  case goto off =>
    simp only [chkI, Bool.and_eq_true, beq_iff_eq] at hchk
    obtain ⟨rfl, hts2⟩ := hchk
    intro H locs lsA hP hD hS hl
    simp only [stP] at h
    split at h
    · simp only [decide_eq_true_eq] at hts2
      exact lv_goto hx hb hdec hts2 (hk _ _ _ _ h H locs lsA hP hD hS (hl.mask _))
    · exact h.elim
  case tableswitch d lo hi offs =>
    simp only [chkI, Bool.and_eq_true, beq_iff_eq, decide_eq_true_eq] at hchk
    obtain ⟨⟨⟨rfl, hhi⟩, hts2⟩, hsz⟩ := hchk
    intro H locs lsA hP hD hS hl
    obtain ⟨x, r, rfl, h⟩ := p1_of h
    have hlen : ts.length = offs.size + 1 := by
      have := congrArg List.length hts2
      simpa using this
    by_cases hin : 0 ≤ x.toInt ∧ x.toInt < (offs.size : Int)
    · obtain ⟨j, hj⟩ : ∃ j : Nat, x.toInt = (j : Int) := ⟨x.toInt.toNat, by omega⟩
      have hjl : j < offs.size := by omega
      have hxj : x = nI j := by
        have h1 := nI_toInt (n := j) (by omega)
        have : x.toInt = (nI j).toInt := by rw [h1, hj]
        exact Int32.toInt_inj.mp this
      obtain ⟨t, ht, hkt⟩ := sw_in ts 0 j h (by omega) (by rw [hxj]; congr 1; omega)
      have ho : (ts.map (fun t => (t.1 : Int)))[j]? = some (t.1 : Int) := by rw [List.getElem?_map, ht]; rfl
      rw [hts2, List.getElem?_map, List.getElem?_append_left (by simpa using hjl)] at ho
      cases hoj : offs.toList[j]? with
      | none => rw [hoj] at ho; cases ho
      | some off =>
        rw [hoj] at ho
        have ho2 : (pc : Int) + off = (t.1 : Int) := Option.some.inj ho
        exact lv_tableIn (tgt := t.1) hx hb hdec (by omega) (by omega) (by rw [hj]; simpa using hoj) ho2 (hk _ _ _ _ hkt H locs lsA hP hD hS (hl.mask _))
    · obtain ⟨t, ht, hkt⟩ := sw_out ts 0 h (by rw [hlen]; simpa using hin)
      have ho : (ts.map (fun t => (t.1 : Int)))[ts.length - 1]? = some (t.1 : Int) := by rw [List.getElem?_map, ht]; rfl
      rw [hts2, hlen, List.getElem?_map] at ho
      have ho2 : (offs.toList ++ [d])[offs.size + 1 - 1]? = some d := by
        rw [List.getElem?_append_right (by simp)]
        simp
      rw [ho2] at ho
      have ho3 : (pc : Int) + d = (t.1 : Int) := Option.some.inj ho
      exact lv_tableOut (tgt := t.1) hx hb hdec (by omega) ho3 (hk _ _ _ _ hkt H locs lsA hP hD hS (hl.mask _))
  case invokevirtual n =>
    simp only [chkI, Bool.and_eq_true, beq_iff_eq, decide_eq_true_eq] at hchk
    obtain ⟨⟨⟨rfl, hm⟩, hpar⟩, ht⟩ := hchk
    refine a_callV hok0 hdec hm hpar ?_ hK h
    intro t htt
    subst htt
    simpa using ht
  case invokestatic n =>
    simp only [chkI, Bool.and_eq_true, beq_iff_eq] at hchk
    obtain ⟨rfl, ht⟩ := hchk
    cases ts with
    | nil =>
      simp only [Bool.and_eq_true, Bool.or_eq_true, decide_eq_true_eq] at ht
      exact a_callS hok0 hdec ht.1 ht.2 hK h
    | cons t0 ts =>
      obtain ⟨t1, t0⟩ := t0
      match t1, ht, h with
      | 0, ht, h => exact a_copy hok0 hdec (by simpa using ht) hK h
      | 1, ht, h => exact a_max hok0 hdec (by simpa using ht) hK h
      | 2, ht, h => exact a_min hok0 hdec (by simpa using ht) hK h
      | z + 3, ht, h => exact h.elim
  case ireturn =>
    simp only [chkI, Bool.and_eq_true, Bool.or_eq_true, beq_iff_eq, decide_eq_true_eq] at hchk
    obtain ⟨rfl, hr⟩ := hchk
    intro H locs lsA hP hD hS hl
    simp only [stP] at h
    split at h
    · rename_i x
      obtain ⟨hz, hq⟩ := h
      refine hret (some x) m H locs pc lsA hq hP hS ⟨hdec, ?_⟩
      rcases hr with hr | hr
      · exact Or.inl hr
      · refine Or.inr ⟨hr, ?_⟩
        rcases hz with hz | hz
        · unfold mZr at hz
          rw [hr] at hz
          exact absurd hz (by decide)
        · exact hz
    · exact h.elim
  case return_ =>
    simp only [chkI, Bool.and_eq_true, beq_iff_eq, decide_eq_true_eq] at hchk
    obtain ⟨rfl, hr⟩ := hchk
    intro H locs lsA hP hD hS hl
    simp only [stP] at h
    split at h
    · exact hret none m H locs pc lsA h hP hS ⟨hdec, hr⟩
    · exact h.elim
  all_goals first | exact absurd hchk (by simp [chkI]) | exact absurd rfl hnop
theorem a_block (hok : AOk D y Q p l e R s mm args below meth c cells slots Qm A G) (hk : ∀ t ls st m, k t ls st m → AAt y p l e R s mm args below meth c cells slots Qm A G t ls st m) : ∀ (ops : List AOp) (pc : Nat) (ls : AL) (st : List AV) (m : AM), chkO (mOwn y) (mMax y) (mRet y) (mCode y) pc ops = true → exP (aCC D) D (mZr y) k Q ops ls st m → AAt y p l e R s mm args below meth c cells slots Qm A G pc ls st m
  | [], pc, ls, st, m, hc, h => h.elim
  | (pc0, len, i, v, a, b, ts) :: rest, pc, ls, st, m, hc, h => by
    simp only [chkO, Bool.and_eq_true, beq_iff_eq] at hc
    obtain ⟨⟨rfl, hi⟩, hrest⟩ := hc
    by_cases hn : i = .nop
    · subst hn
      simp only [exP, stP] at h
      split at h
      · rename_i t
        simp only [beq_iff_eq] at hi
        intro H locs lsA hP hD hS hl
        rw [← hi]
        exact hk _ _ _ _ h H locs lsA hP hD hS (hl.mask _)
      · exact h.elim
    · have hi2 : decode (mCode y) pc = .ok (i, len) ∧ chkI (mOwn y) (mMax y) (mRet y) i len v a b pc ts = true := by
        revert hi
        split
        · intro _; exact absurd rfl hn
        · intro hi
          simp only [Bool.and_eq_true, decide_eq_true_eq] at hi
          exact hi
      exact a_step hok hi2.1 hi2.2 (fun ls st m h2 => a_block hok hk rest (pc + len) ls st m hrest h2) hk h hn
end STEP2
end
section
/-! ===== the judgement's step; a contract out of a walk ===== -/
theorem lkB_chk {o nL : Nat} {ret : Option FieldType} {cc : ByteArray} {pc : Nat} : ∀ (bl : List (Nat × List AOp)), chkB o nL ret cc bl = true → chkO o nL ret cc pc (lkB pc bl) = true
  | [], _ => rfl
  | (p, ops) :: t, h => by
    unfold chkB at h
    simp only [List.all_cons, Bool.and_eq_true] at h
    unfold lkB
    split
    · rename_i hp
      subst hp
      exact h.1
    · exact lkB_chk t (by unfold chkB; exact h.2)
/-- the judgement goes on from a block to what the block asks -/
theorem AW_step {D y : Nat} {Q : APost} {pc : Nat} {ls : AL} {st : List AV} {m : AM} (hc : chkM y = true) (h : exP (aCC D) D (mZr y) (AW D y Q) Q (blkOf y pc) ls st m) : AW D y Q pc ls st m := by
  intro p l e R s mm args below meth c cells slots Qm A G hok
  refine a_block (k := AW D y Q) hok (fun t ls st m hk => hk p l e R s mm args below meth c cells slots Qm A G hok) (blkOf y pc) pc ls st m ?_ h
  exact lkB_chk _ hc
theorem sl_one : ∀ (adr : Nat → Nat) (as : List AV), lg_sl (as.map (atr adr)) = (as.map (atr adr)).map Slot.val
  | _, [] => rfl
  | adr, a :: as => by
    have h := sl_one adr as
    have h1 : ¬ (atr adr a).category = 2 := by rw [atr_cat]; decide
    unfold lg_sl at h ⊢
    rw [List.map_cons, List.flatMap_cons, h, if_neg h1]
    rfl
theorem AC_of {D y n z : Nat} {as : List AV} {ls : AL} {m : AM} {Q : APost} (ho : ((mNm y).cls = cNm (mOwn y) ∧ plainName (mNm y).cls = true) ∧ mMax y = n) (hlen : as.length ≤ n) (hls : ls = as.map some ++ List.replicate z none) (h : AW D y Q 0 ls [] m) : AC D y as m Q := by
  obtain ⟨ho, hn⟩ := ho
  rw [← hn] at hlen
  intro l G sz
  refine Met.ofW (cc := mCode y) (maxL := mMax y) (ret := mRet y) ho.2 rfl ?_
  intro p e s mm args below meth c s₁ B hml hv
  obtain ⟨rfl, hsz, hP, hK, hD0, hN⟩ := hv
  have hx := B.exec
  have hb := B.bytes
  have hr := B.returns
  have hts := atoms_spec (ws := wsY y) B.pre
  have hown : s.vm.findClass (cNm (mOwn y)) = some mm.cls := by rw [← ho.1]; exact findClass_of_methodNamed B.named
  have hlocks := B.notSynchronized
  subst hsz
  have hD := hD0.self (sz := s.heap.size)
  rw [lg_entry_eq]
  have hlsl : (lg_sl (as.map (atr G.1))).length ≤ mMax y := by rw [sl_one]; simpa using hlen
  have hl := lv_entry (as.map (atr G.1)) (n := mMax y) hlsl
  refine h p l e _ s mm _ below meth c 0 0 _ (va_A (wd G.1 G.2.2 m) s.heap.size) G ⟨hx, hb, hml, hown, fun w hw => hts w (List.mem_cons_of_mem _ hw), hN, hK, fun q h => Or.inr h, ⟨Nat.le_refl _, Nat.le_refl _, Nat.zero_le _, Nat.zero_le _⟩, ?_⟩ s.heap [] _ hP hD va_S.rf ⟨hl.1, hl.2.1, ?_⟩
  · intro r u H locs pc lsA hq hP1 hS1 hdc
    cases r with
    | none =>
      obtain ⟨hd, hret⟩ := hdc
      exact W.vret hx hb (hr.trans hret) (fun t ht hW => ⟨⟨none, u, rfl, hq, by rw [ht]; exact hP1⟩, hS1.F ht⟩) hS1.2.2 hd
    | some x =>
      obtain ⟨hd, hret⟩ := hdc
      rcases hret with hret | ⟨hret, hxx⟩
      · exact W.iret (v := x) hx hb (hr.trans hret) (fun t ht hW => ⟨⟨some x, u, rfl, hq, by rw [ht]; exact hP1⟩, hS1.F ht⟩) hS1.2.2 hd
      · exact W.zret (v := x) hx hb (hr.trans hret) (by rcases hxx with rfl | rfl <;> rfl) (fun t ht hW => ⟨⟨some x, u, rfl, hq, by rw [ht]; exact hP1⟩, hS1.F ht⟩) hS1.2.2 hd
  · intro i v hi
    have hi2 : as[i]? = some v := by
      rw [hls, List.getElem?_append] at hi
      split at hi
      case isFalse =>
        rw [List.getElem?_replicate] at hi
        split at hi
        · cases hi
        · cases hi
      rw [List.getElem?_map] at hi
      cases ha : as[i]? with
      | none => rw [ha] at hi; cases hi
      | some w => rw [ha] at hi; exact Option.some.inj hi
    have hil : i < as.length := (List.getElem?_eq_some_iff.mp hi2).1
    rw [List.getElem?_toArray, List.getElem?_append_left (by rw [sl_one]; simpa using hil), sl_one, List.getElem?_map, List.getElem?_map, hi2]
    rfl
theorem AC_mono {D y : Nat} {as : List AV} {m : AM} {Q Q' : APost} (h : AC D y as m Q) (hq : ∀ r u, Q r u → Q' r u) : AC D y as m Q' := by
  intro l G sz p e ha hc hk s mm args below hf hfit hP hX
  obtain ⟨n, o, h1, h2, h3, ⟨⟨⟨r, u, e1, e2, e3⟩, e4⟩, e5⟩⟩ := h l G sz p e ha hc hk s mm args below hf hfit hP hX
  exact ⟨n, o, h1, h2, h3, ⟨⟨⟨r, u, e1, hq r u e2, e3⟩, e4⟩, e5⟩⟩
end
section
/-! ===== every method's blocks are its bytes; the step of each block ===== -/
set_option maxRecDepth 100000 in
theorem chk_X0_isPlace : chkM 0 = true := by decide +kernel
set_option maxRecDepth 100000 in
theorem own_X0_isPlace : ((mNm 0).cls = cNm (mOwn 0) ∧ plainName (mNm 0).cls = true) ∧ mMax 0 = 2 := by decide +kernel
theorem st_X0_isPlace_0 {D : Nat} {Q : APost} {ls : AL} {st : List AV} {m : AM} (h : exP (aCC D) D true (AW D 0 Q) Q bX0_isPlace_0 ls st m) : AW D 0 Q 0 ls st m := AW_step chk_X0_isPlace h
theorem st_X0_isPlace_4 {D : Nat} {Q : APost} {ls : AL} {st : List AV} {m : AM} (h : exP (aCC D) D true (AW D 0 Q) Q bX0_isPlace_4 ls st m) : AW D 0 Q 4 ls st m := AW_step chk_X0_isPlace h
theorem st_X0_isPlace_10 {D : Nat} {Q : APost} {ls : AL} {st : List AV} {m : AM} (h : exP (aCC D) D true (AW D 0 Q) Q bX0_isPlace_10 ls st m) : AW D 0 Q 10 ls st m := AW_step chk_X0_isPlace h
theorem st_X0_isPlace_14 {D : Nat} {Q : APost} {ls : AL} {st : List AV} {m : AM} (h : exP (aCC D) D true (AW D 0 Q) Q bX0_isPlace_14 ls st m) : AW D 0 Q 14 ls st m := AW_step chk_X0_isPlace h
theorem st_X0_isPlace_19 {D : Nat} {Q : APost} {ls : AL} {st : List AV} {m : AM} (h : exP (aCC D) D true (AW D 0 Q) Q bX0_isPlace_19 ls st m) : AW D 0 Q 19 ls st m := AW_step chk_X0_isPlace h
theorem st_X0_isPlace_23 {D : Nat} {Q : APost} {ls : AL} {st : List AV} {m : AM} (h : exP (aCC D) D true (AW D 0 Q) Q bX0_isPlace_23 ls st m) : AW D 0 Q 23 ls st m := AW_step chk_X0_isPlace h
theorem st_X0_isPlace_24 {D : Nat} {Q : APost} {ls : AL} {st : List AV} {m : AM} (h : exP (aCC D) D true (AW D 0 Q) Q bX0_isPlace_24 ls st m) : AW D 0 Q 24 ls st m := AW_step chk_X0_isPlace h
set_option maxRecDepth 100000 in
theorem chk_X0_of : chkM 1 = true := by decide +kernel
set_option maxRecDepth 100000 in
theorem own_X0_of : ((mNm 1).cls = cNm (mOwn 1) ∧ plainName (mNm 1).cls = true) ∧ mMax 1 = 3 := by decide +kernel
theorem st_X0_of_0 {D : Nat} {Q : APost} {ls : AL} {st : List AV} {m : AM} (h : exP (aCC D) D false (AW D 1 Q) Q bX0_of_0 ls st m) : AW D 1 Q 0 ls st m := AW_step chk_X0_of h
theorem st_X0_of_8 {D : Nat} {Q : APost} {ls : AL} {st : List AV} {m : AM} (h : exP (aCC D) D false (AW D 1 Q) Q bX0_of_8 ls st m) : AW D 1 Q 8 ls st m := AW_step chk_X0_of h
theorem st_X0_of_22 {D : Nat} {Q : APost} {ls : AL} {st : List AV} {m : AM} (h : exP (aCC D) D false (AW D 1 Q) Q bX0_of_22 ls st m) : AW D 1 Q 22 ls st m := AW_step chk_X0_of h
theorem st_X0_of_23 {D : Nat} {Q : APost} {ls : AL} {st : List AV} {m : AM} (h : exP (aCC D) D false (AW D 1 Q) Q bX0_of_23 ls st m) : AW D 1 Q 23 ls st m := AW_step chk_X0_of h
set_option maxRecDepth 100000 in
theorem chk_X0_many : chkM 2 = true := by decide +kernel
set_option maxRecDepth 100000 in
theorem own_X0_many : ((mNm 2).cls = cNm (mOwn 2) ∧ plainName (mNm 2).cls = true) ∧ mMax 2 = 4 := by decide +kernel
theorem st_X0_many_0 {D : Nat} {Q : APost} {ls : AL} {st : List AV} {m : AM} (h : exP (aCC D) D false (AW D 2 Q) Q bX0_many_0 ls st m) : AW D 2 Q 0 ls st m := AW_step chk_X0_many h
theorem st_X0_many_4 {D : Nat} {Q : APost} {ls : AL} {st : List AV} {m : AM} (h : exP (aCC D) D false (AW D 2 Q) Q bX0_many_4 ls st m) : AW D 2 Q 4 ls st m := AW_step chk_X0_many h
theorem st_X0_many_9 {D : Nat} {Q : APost} {ls : AL} {st : List AV} {m : AM} (h : exP (aCC D) D false (AW D 2 Q) Q bX0_many_9 ls st m) : AW D 2 Q 9 ls st m := AW_step chk_X0_many h
theorem st_X0_many_27 {D : Nat} {Q : APost} {ls : AL} {st : List AV} {m : AM} (h : exP (aCC D) D false (AW D 2 Q) Q bX0_many_27 ls st m) : AW D 2 Q 27 ls st m := AW_step chk_X0_many h
set_option maxRecDepth 100000 in
theorem chk_X0_put : chkM 3 = true := by decide +kernel
set_option maxRecDepth 100000 in
theorem own_X0_put : ((mNm 3).cls = cNm (mOwn 3) ∧ plainName (mNm 3).cls = true) ∧ mMax 3 = 4 := by decide +kernel
theorem st_X0_put_0 {D : Nat} {Q : APost} {ls : AL} {st : List AV} {m : AM} (h : exP (aCC D) D true (AW D 3 Q) Q bX0_put_0 ls st m) : AW D 3 Q 0 ls st m := AW_step chk_X0_put h
theorem st_X0_put_8 {D : Nat} {Q : APost} {ls : AL} {st : List AV} {m : AM} (h : exP (aCC D) D true (AW D 3 Q) Q bX0_put_8 ls st m) : AW D 3 Q 8 ls st m := AW_step chk_X0_put h
theorem st_X0_put_21 {D : Nat} {Q : APost} {ls : AL} {st : List AV} {m : AM} (h : exP (aCC D) D true (AW D 3 Q) Q bX0_put_21 ls st m) : AW D 3 Q 21 ls st m := AW_step chk_X0_put h
theorem st_X0_put_31 {D : Nat} {Q : APost} {ls : AL} {st : List AV} {m : AM} (h : exP (aCC D) D true (AW D 3 Q) Q bX0_put_31 ls st m) : AW D 3 Q 31 ls st m := AW_step chk_X0_put h
theorem st_X0_put_33 {D : Nat} {Q : APost} {ls : AL} {st : List AV} {m : AM} (h : exP (aCC D) D true (AW D 3 Q) Q bX0_put_33 ls st m) : AW D 3 Q 33 ls st m := AW_step chk_X0_put h
set_option maxRecDepth 100000 in
theorem chk_X0_sharingHand : chkM 4 = true := by decide +kernel
set_option maxRecDepth 100000 in
theorem own_X0_sharingHand : ((mNm 4).cls = cNm (mOwn 4) ∧ plainName (mNm 4).cls = true) ∧ mMax 4 = 4 := by decide +kernel
theorem st_X0_sharingHand_0 {D : Nat} {Q : APost} {ls : AL} {st : List AV} {m : AM} (h : exP (aCC D) D false (AW D 4 Q) Q bX0_sharingHand_0 ls st m) : AW D 4 Q 0 ls st m := AW_step chk_X0_sharingHand h
theorem st_X0_sharingHand_4 {D : Nat} {Q : APost} {ls : AL} {st : List AV} {m : AM} (h : exP (aCC D) D false (AW D 4 Q) Q bX0_sharingHand_4 ls st m) : AW D 4 Q 4 ls st m := AW_step chk_X0_sharingHand h
theorem st_X0_sharingHand_10 {D : Nat} {Q : APost} {ls : AL} {st : List AV} {m : AM} (h : exP (aCC D) D false (AW D 4 Q) Q bX0_sharingHand_10 ls st m) : AW D 4 Q 10 ls st m := AW_step chk_X0_sharingHand h
theorem st_X0_sharingHand_15 {D : Nat} {Q : APost} {ls : AL} {st : List AV} {m : AM} (h : exP (aCC D) D false (AW D 4 Q) Q bX0_sharingHand_15 ls st m) : AW D 4 Q 15 ls st m := AW_step chk_X0_sharingHand h
theorem st_X0_sharingHand_31 {D : Nat} {Q : APost} {ls : AL} {st : List AV} {m : AM} (h : exP (aCC D) D false (AW D 4 Q) Q bX0_sharingHand_31 ls st m) : AW D 4 Q 31 ls st m := AW_step chk_X0_sharingHand h
theorem st_X0_sharingHand_37 {D : Nat} {Q : APost} {ls : AL} {st : List AV} {m : AM} (h : exP (aCC D) D false (AW D 4 Q) Q bX0_sharingHand_37 ls st m) : AW D 4 Q 37 ls st m := AW_step chk_X0_sharingHand h
theorem st_X0_sharingHand_43 {D : Nat} {Q : APost} {ls : AL} {st : List AV} {m : AM} (h : exP (aCC D) D false (AW D 4 Q) Q bX0_sharingHand_43 ls st m) : AW D 4 Q 43 ls st m := AW_step chk_X0_sharingHand h
set_option maxRecDepth 100000 in
theorem chk_X1_lightest : chkM 5 = true := by decide +kernel
set_option maxRecDepth 100000 in
theorem own_X1_lightest : ((mNm 5).cls = cNm (mOwn 5) ∧ plainName (mNm 5).cls = true) ∧ mMax 5 = 2 := by decide +kernel
theorem st_X1_lightest_0 {D : Nat} {Q : APost} {ls : AL} {st : List AV} {m : AM} (h : exP (aCC D) D false (AW D 5 Q) Q bX1_lightest_0 ls st m) : AW D 5 Q 0 ls st m := AW_step chk_X1_lightest h
set_option maxRecDepth 100000 in
theorem chk_X1_weigh : chkM 6 = true := by decide +kernel
set_option maxRecDepth 100000 in
theorem own_X1_weigh : ((mNm 6).cls = cNm (mOwn 6) ∧ plainName (mNm 6).cls = true) ∧ mMax 6 = 4 := by decide +kernel
theorem st_X1_weigh_0 {D : Nat} {Q : APost} {ls : AL} {st : List AV} {m : AM} (h : exP (aCC D) D false (AW D 6 Q) Q bX1_weigh_0 ls st m) : AW D 6 Q 0 ls st m := AW_step chk_X1_weigh h
theorem st_X1_weigh_4 {D : Nat} {Q : APost} {ls : AL} {st : List AV} {m : AM} (h : exP (aCC D) D false (AW D 6 Q) Q bX1_weigh_4 ls st m) : AW D 6 Q 4 ls st m := AW_step chk_X1_weigh h
theorem st_X1_weigh_10 {D : Nat} {Q : APost} {ls : AL} {st : List AV} {m : AM} (h : exP (aCC D) D false (AW D 6 Q) Q bX1_weigh_10 ls st m) : AW D 6 Q 10 ls st m := AW_step chk_X1_weigh h
theorem st_X1_weigh_18 {D : Nat} {Q : APost} {ls : AL} {st : List AV} {m : AM} (h : exP (aCC D) D false (AW D 6 Q) Q bX1_weigh_18 ls st m) : AW D 6 Q 18 ls st m := AW_step chk_X1_weigh h
theorem st_X1_weigh_27 {D : Nat} {Q : APost} {ls : AL} {st : List AV} {m : AM} (h : exP (aCC D) D false (AW D 6 Q) Q bX1_weigh_27 ls st m) : AW D 6 Q 27 ls st m := AW_step chk_X1_weigh h
theorem st_X1_weigh_33 {D : Nat} {Q : APost} {ls : AL} {st : List AV} {m : AM} (h : exP (aCC D) D false (AW D 6 Q) Q bX1_weigh_33 ls st m) : AW D 6 Q 33 ls st m := AW_step chk_X1_weigh h
set_option maxRecDepth 100000 in
theorem chk_X1_forge : chkM 7 = true := by decide +kernel
set_option maxRecDepth 100000 in
theorem own_X1_forge : ((mNm 7).cls = cNm (mOwn 7) ∧ plainName (mNm 7).cls = true) ∧ mMax 7 = 9 := by decide +kernel
theorem st_X1_forge_0 {D : Nat} {Q : APost} {ls : AL} {st : List AV} {m : AM} (h : exP (aCC D) D false (AW D 7 Q) Q bX1_forge_0 ls st m) : AW D 7 Q 0 ls st m := AW_step chk_X1_forge h
theorem st_X1_forge_7 {D : Nat} {Q : APost} {ls : AL} {st : List AV} {m : AM} (h : exP (aCC D) D false (AW D 7 Q) Q bX1_forge_7 ls st m) : AW D 7 Q 7 ls st m := AW_step chk_X1_forge h
theorem st_X1_forge_19 {D : Nat} {Q : APost} {ls : AL} {st : List AV} {m : AM} (h : exP (aCC D) D false (AW D 7 Q) Q bX1_forge_19 ls st m) : AW D 7 Q 19 ls st m := AW_step chk_X1_forge h
theorem st_X1_forge_20 {D : Nat} {Q : APost} {ls : AL} {st : List AV} {m : AM} (h : exP (aCC D) D false (AW D 7 Q) Q bX1_forge_20 ls st m) : AW D 7 Q 20 ls st m := AW_step chk_X1_forge h
theorem st_X1_forge_35 {D : Nat} {Q : APost} {ls : AL} {st : List AV} {m : AM} (h : exP (aCC D) D false (AW D 7 Q) Q bX1_forge_35 ls st m) : AW D 7 Q 35 ls st m := AW_step chk_X1_forge h
theorem st_X1_forge_41 {D : Nat} {Q : APost} {ls : AL} {st : List AV} {m : AM} (h : exP (aCC D) D false (AW D 7 Q) Q bX1_forge_41 ls st m) : AW D 7 Q 41 ls st m := AW_step chk_X1_forge h
theorem st_X1_forge_47 {D : Nat} {Q : APost} {ls : AL} {st : List AV} {m : AM} (h : exP (aCC D) D false (AW D 7 Q) Q bX1_forge_47 ls st m) : AW D 7 Q 47 ls st m := AW_step chk_X1_forge h
theorem st_X1_forge_54 {D : Nat} {Q : APost} {ls : AL} {st : List AV} {m : AM} (h : exP (aCC D) D false (AW D 7 Q) Q bX1_forge_54 ls st m) : AW D 7 Q 54 ls st m := AW_step chk_X1_forge h
theorem st_X1_forge_73 {D : Nat} {Q : APost} {ls : AL} {st : List AV} {m : AM} (h : exP (aCC D) D false (AW D 7 Q) Q bX1_forge_73 ls st m) : AW D 7 Q 73 ls st m := AW_step chk_X1_forge h
theorem st_X1_forge_100 {D : Nat} {Q : APost} {ls : AL} {st : List AV} {m : AM} (h : exP (aCC D) D false (AW D 7 Q) Q bX1_forge_100 ls st m) : AW D 7 Q 100 ls st m := AW_step chk_X1_forge h
theorem st_X1_forge_106 {D : Nat} {Q : APost} {ls : AL} {st : List AV} {m : AM} (h : exP (aCC D) D false (AW D 7 Q) Q bX1_forge_106 ls st m) : AW D 7 Q 106 ls st m := AW_step chk_X1_forge h
set_option maxRecDepth 100000 in
theorem chk_X1_keepBetter : chkM 8 = true := by decide +kernel
set_option maxRecDepth 100000 in
theorem own_X1_keepBetter : ((mNm 8).cls = cNm (mOwn 8) ∧ plainName (mNm 8).cls = true) ∧ mMax 8 = 3 := by decide +kernel
theorem st_X1_keepBetter_0 {D : Nat} {Q : APost} {ls : AL} {st : List AV} {m : AM} (h : exP (aCC D) D false (AW D 8 Q) Q bX1_keepBetter_0 ls st m) : AW D 8 Q 0 ls st m := AW_step chk_X1_keepBetter h
theorem st_X1_keepBetter_17 {D : Nat} {Q : APost} {ls : AL} {st : List AV} {m : AM} (h : exP (aCC D) D false (AW D 8 Q) Q bX1_keepBetter_17 ls st m) : AW D 8 Q 17 ls st m := AW_step chk_X1_keepBetter h
theorem st_X1_keepBetter_32 {D : Nat} {Q : APost} {ls : AL} {st : List AV} {m : AM} (h : exP (aCC D) D false (AW D 8 Q) Q bX1_keepBetter_32 ls st m) : AW D 8 Q 32 ls st m := AW_step chk_X1_keepBetter h
theorem st_X1_keepBetter_36 {D : Nat} {Q : APost} {ls : AL} {st : List AV} {m : AM} (h : exP (aCC D) D false (AW D 8 Q) Q bX1_keepBetter_36 ls st m) : AW D 8 Q 36 ls st m := AW_step chk_X1_keepBetter h
theorem st_X1_keepBetter_40 {D : Nat} {Q : APost} {ls : AL} {st : List AV} {m : AM} (h : exP (aCC D) D false (AW D 8 Q) Q bX1_keepBetter_40 ls st m) : AW D 8 Q 40 ls st m := AW_step chk_X1_keepBetter h
theorem st_X1_keepBetter_48 {D : Nat} {Q : APost} {ls : AL} {st : List AV} {m : AM} (h : exP (aCC D) D false (AW D 8 Q) Q bX1_keepBetter_48 ls st m) : AW D 8 Q 48 ls st m := AW_step chk_X1_keepBetter h
theorem st_X1_keepBetter_62 {D : Nat} {Q : APost} {ls : AL} {st : List AV} {m : AM} (h : exP (aCC D) D false (AW D 8 Q) Q bX1_keepBetter_62 ls st m) : AW D 8 Q 62 ls st m := AW_step chk_X1_keepBetter h
set_option maxRecDepth 100000 in
theorem chk_X2_areYears : chkM 9 = true := by decide +kernel
set_option maxRecDepth 100000 in
theorem own_X2_areYears : ((mNm 9).cls = cNm (mOwn 9) ∧ plainName (mNm 9).cls = true) ∧ mMax 9 = 2 := by decide +kernel
theorem st_X2_areYears_0 {D : Nat} {Q : APost} {ls : AL} {st : List AV} {m : AM} (h : exP (aCC D) D true (AW D 9 Q) Q bX2_areYears_0 ls st m) : AW D 9 Q 0 ls st m := AW_step chk_X2_areYears h
theorem st_X2_areYears_4 {D : Nat} {Q : APost} {ls : AL} {st : List AV} {m : AM} (h : exP (aCC D) D true (AW D 9 Q) Q bX2_areYears_4 ls st m) : AW D 9 Q 4 ls st m := AW_step chk_X2_areYears h
theorem st_X2_areYears_9 {D : Nat} {Q : APost} {ls : AL} {st : List AV} {m : AM} (h : exP (aCC D) D true (AW D 9 Q) Q bX2_areYears_9 ls st m) : AW D 9 Q 9 ls st m := AW_step chk_X2_areYears h
theorem st_X2_areYears_16 {D : Nat} {Q : APost} {ls : AL} {st : List AV} {m : AM} (h : exP (aCC D) D true (AW D 9 Q) Q bX2_areYears_16 ls st m) : AW D 9 Q 16 ls st m := AW_step chk_X2_areYears h
theorem st_X2_areYears_20 {D : Nat} {Q : APost} {ls : AL} {st : List AV} {m : AM} (h : exP (aCC D) D true (AW D 9 Q) Q bX2_areYears_20 ls st m) : AW D 9 Q 20 ls st m := AW_step chk_X2_areYears h
theorem st_X2_areYears_21 {D : Nat} {Q : APost} {ls : AL} {st : List AV} {m : AM} (h : exP (aCC D) D true (AW D 9 Q) Q bX2_areYears_21 ls st m) : AW D 9 Q 21 ls st m := AW_step chk_X2_areYears h
set_option maxRecDepth 100000 in
theorem chk_X2_has : chkM 10 = true := by decide +kernel
set_option maxRecDepth 100000 in
theorem own_X2_has : ((mNm 10).cls = cNm (mOwn 10) ∧ plainName (mNm 10).cls = true) ∧ mMax 10 = 2 := by decide +kernel
theorem st_X2_has_0 {D : Nat} {Q : APost} {ls : AL} {st : List AV} {m : AM} (h : exP (aCC D) D true (AW D 10 Q) Q bX2_has_0 ls st m) : AW D 10 Q 0 ls st m := AW_step chk_X2_has h
theorem st_X2_has_4 {D : Nat} {Q : APost} {ls : AL} {st : List AV} {m : AM} (h : exP (aCC D) D true (AW D 10 Q) Q bX2_has_4 ls st m) : AW D 10 Q 4 ls st m := AW_step chk_X2_has h
theorem st_X2_has_12 {D : Nat} {Q : APost} {ls : AL} {st : List AV} {m : AM} (h : exP (aCC D) D true (AW D 10 Q) Q bX2_has_12 ls st m) : AW D 10 Q 12 ls st m := AW_step chk_X2_has h
theorem st_X2_has_21 {D : Nat} {Q : APost} {ls : AL} {st : List AV} {m : AM} (h : exP (aCC D) D true (AW D 10 Q) Q bX2_has_21 ls st m) : AW D 10 Q 21 ls st m := AW_step chk_X2_has h
theorem st_X2_has_30 {D : Nat} {Q : APost} {ls : AL} {st : List AV} {m : AM} (h : exP (aCC D) D true (AW D 10 Q) Q bX2_has_30 ls st m) : AW D 10 Q 30 ls st m := AW_step chk_X2_has h
theorem st_X2_has_34 {D : Nat} {Q : APost} {ls : AL} {st : List AV} {m : AM} (h : exP (aCC D) D true (AW D 10 Q) Q bX2_has_34 ls st m) : AW D 10 Q 34 ls st m := AW_step chk_X2_has h
theorem st_X2_has_35 {D : Nat} {Q : APost} {ls : AL} {st : List AV} {m : AM} (h : exP (aCC D) D true (AW D 10 Q) Q bX2_has_35 ls st m) : AW D 10 Q 35 ls st m := AW_step chk_X2_has h
set_option maxRecDepth 100000 in
theorem chk_X2_add : chkM 11 = true := by decide +kernel
set_option maxRecDepth 100000 in
theorem own_X2_add : ((mNm 11).cls = cNm (mOwn 11) ∧ plainName (mNm 11).cls = true) ∧ mMax 11 = 3 := by decide +kernel
theorem st_X2_add_0 {D : Nat} {Q : APost} {ls : AL} {st : List AV} {m : AM} (h : exP (aCC D) D false (AW D 11 Q) Q bX2_add_0 ls st m) : AW D 11 Q 0 ls st m := AW_step chk_X2_add h
theorem st_X2_add_8 {D : Nat} {Q : APost} {ls : AL} {st : List AV} {m : AM} (h : exP (aCC D) D false (AW D 11 Q) Q bX2_add_8 ls st m) : AW D 11 Q 8 ls st m := AW_step chk_X2_add h
theorem st_X2_add_20 {D : Nat} {Q : APost} {ls : AL} {st : List AV} {m : AM} (h : exP (aCC D) D false (AW D 11 Q) Q bX2_add_20 ls st m) : AW D 11 Q 20 ls st m := AW_step chk_X2_add h
theorem st_X2_add_22 {D : Nat} {Q : APost} {ls : AL} {st : List AV} {m : AM} (h : exP (aCC D) D false (AW D 11 Q) Q bX2_add_22 ls st m) : AW D 11 Q 22 ls st m := AW_step chk_X2_add h
set_option maxRecDepth 100000 in
theorem chk_X2_change : chkM 12 = true := by decide +kernel
set_option maxRecDepth 100000 in
theorem own_X2_change : ((mNm 12).cls = cNm (mOwn 12) ∧ plainName (mNm 12).cls = true) ∧ mMax 12 = 4 := by decide +kernel
theorem st_X2_change_0 {D : Nat} {Q : APost} {ls : AL} {st : List AV} {m : AM} (h : exP (aCC D) D true (AW D 12 Q) Q bX2_change_0 ls st m) : AW D 12 Q 0 ls st m := AW_step chk_X2_change h
theorem st_X2_change_8 {D : Nat} {Q : APost} {ls : AL} {st : List AV} {m : AM} (h : exP (aCC D) D true (AW D 12 Q) Q bX2_change_8 ls st m) : AW D 12 Q 8 ls st m := AW_step chk_X2_change h
theorem st_X2_change_16 {D : Nat} {Q : APost} {ls : AL} {st : List AV} {m : AM} (h : exP (aCC D) D true (AW D 12 Q) Q bX2_change_16 ls st m) : AW D 12 Q 16 ls st m := AW_step chk_X2_change h
theorem st_X2_change_18 {D : Nat} {Q : APost} {ls : AL} {st : List AV} {m : AM} (h : exP (aCC D) D true (AW D 12 Q) Q bX2_change_18 ls st m) : AW D 12 Q 18 ls st m := AW_step chk_X2_change h
set_option maxRecDepth 100000 in
theorem chk_X2_latestStart : chkM 13 = true := by decide +kernel
set_option maxRecDepth 100000 in
theorem own_X2_latestStart : ((mNm 13).cls = cNm (mOwn 13) ∧ plainName (mNm 13).cls = true) ∧ mMax 13 = 5 := by decide +kernel
theorem st_X2_latestStart_0 {D : Nat} {Q : APost} {ls : AL} {st : List AV} {m : AM} (h : exP (aCC D) D false (AW D 13 Q) Q bX2_latestStart_0 ls st m) : AW D 13 Q 0 ls st m := AW_step chk_X2_latestStart h
theorem st_X2_latestStart_5 {D : Nat} {Q : APost} {ls : AL} {st : List AV} {m : AM} (h : exP (aCC D) D false (AW D 13 Q) Q bX2_latestStart_5 ls st m) : AW D 13 Q 5 ls st m := AW_step chk_X2_latestStart h
theorem st_X2_latestStart_15 {D : Nat} {Q : APost} {ls : AL} {st : List AV} {m : AM} (h : exP (aCC D) D false (AW D 13 Q) Q bX2_latestStart_15 ls st m) : AW D 13 Q 15 ls st m := AW_step chk_X2_latestStart h
theorem st_X2_latestStart_24 {D : Nat} {Q : APost} {ls : AL} {st : List AV} {m : AM} (h : exP (aCC D) D false (AW D 13 Q) Q bX2_latestStart_24 ls st m) : AW D 13 Q 24 ls st m := AW_step chk_X2_latestStart h
theorem st_X2_latestStart_36 {D : Nat} {Q : APost} {ls : AL} {st : List AV} {m : AM} (h : exP (aCC D) D false (AW D 13 Q) Q bX2_latestStart_36 ls st m) : AW D 13 Q 36 ls st m := AW_step chk_X2_latestStart h
theorem st_X2_latestStart_42 {D : Nat} {Q : APost} {ls : AL} {st : List AV} {m : AM} (h : exP (aCC D) D false (AW D 13 Q) Q bX2_latestStart_42 ls st m) : AW D 13 Q 42 ls st m := AW_step chk_X2_latestStart h
set_option maxRecDepth 100000 in
theorem chk_X2_earliestEnd : chkM 14 = true := by decide +kernel
set_option maxRecDepth 100000 in
theorem own_X2_earliestEnd : ((mNm 14).cls = cNm (mOwn 14) ∧ plainName (mNm 14).cls = true) ∧ mMax 14 = 5 := by decide +kernel
theorem st_X2_earliestEnd_0 {D : Nat} {Q : APost} {ls : AL} {st : List AV} {m : AM} (h : exP (aCC D) D false (AW D 14 Q) Q bX2_earliestEnd_0 ls st m) : AW D 14 Q 0 ls st m := AW_step chk_X2_earliestEnd h
theorem st_X2_earliestEnd_5 {D : Nat} {Q : APost} {ls : AL} {st : List AV} {m : AM} (h : exP (aCC D) D false (AW D 14 Q) Q bX2_earliestEnd_5 ls st m) : AW D 14 Q 5 ls st m := AW_step chk_X2_earliestEnd h
theorem st_X2_earliestEnd_15 {D : Nat} {Q : APost} {ls : AL} {st : List AV} {m : AM} (h : exP (aCC D) D false (AW D 14 Q) Q bX2_earliestEnd_15 ls st m) : AW D 14 Q 15 ls st m := AW_step chk_X2_earliestEnd h
theorem st_X2_earliestEnd_24 {D : Nat} {Q : APost} {ls : AL} {st : List AV} {m : AM} (h : exP (aCC D) D false (AW D 14 Q) Q bX2_earliestEnd_24 ls st m) : AW D 14 Q 24 ls st m := AW_step chk_X2_earliestEnd h
theorem st_X2_earliestEnd_36 {D : Nat} {Q : APost} {ls : AL} {st : List AV} {m : AM} (h : exP (aCC D) D false (AW D 14 Q) Q bX2_earliestEnd_36 ls st m) : AW D 14 Q 36 ls st m := AW_step chk_X2_earliestEnd h
theorem st_X2_earliestEnd_42 {D : Nat} {Q : APost} {ls : AL} {st : List AV} {m : AM} (h : exP (aCC D) D false (AW D 14 Q) Q bX2_earliestEnd_42 ls st m) : AW D 14 Q 42 ls st m := AW_step chk_X2_earliestEnd h
set_option maxRecDepth 100000 in
theorem chk_X3_roundsToBreak : chkM 15 = true := by decide +kernel
set_option maxRecDepth 100000 in
theorem own_X3_roundsToBreak : ((mNm 15).cls = cNm (mOwn 15) ∧ plainName (mNm 15).cls = true) ∧ mMax 15 = 3 := by decide +kernel
theorem st_X3_roundsToBreak_0 {D : Nat} {Q : APost} {ls : AL} {st : List AV} {m : AM} (h : exP (aCC D) D false (AW D 15 Q) Q bX3_roundsToBreak_0 ls st m) : AW D 15 Q 0 ls st m := AW_step chk_X3_roundsToBreak h
theorem st_X3_roundsToBreak_2 {D : Nat} {Q : APost} {ls : AL} {st : List AV} {m : AM} (h : exP (aCC D) D false (AW D 15 Q) Q bX3_roundsToBreak_2 ls st m) : AW D 15 Q 2 ls st m := AW_step chk_X3_roundsToBreak h
theorem st_X3_roundsToBreak_8 {D : Nat} {Q : APost} {ls : AL} {st : List AV} {m : AM} (h : exP (aCC D) D false (AW D 15 Q) Q bX3_roundsToBreak_8 ls st m) : AW D 15 Q 8 ls st m := AW_step chk_X3_roundsToBreak h
theorem st_X3_roundsToBreak_33 {D : Nat} {Q : APost} {ls : AL} {st : List AV} {m : AM} (h : exP (aCC D) D false (AW D 15 Q) Q bX3_roundsToBreak_33 ls st m) : AW D 15 Q 33 ls st m := AW_step chk_X3_roundsToBreak h
theorem st_X3_roundsToBreak_35 {D : Nat} {Q : APost} {ls : AL} {st : List AV} {m : AM} (h : exP (aCC D) D false (AW D 15 Q) Q bX3_roundsToBreak_35 ls st m) : AW D 15 Q 35 ls st m := AW_step chk_X3_roundsToBreak h
theorem st_X3_roundsToBreak_41 {D : Nat} {Q : APost} {ls : AL} {st : List AV} {m : AM} (h : exP (aCC D) D false (AW D 15 Q) Q bX3_roundsToBreak_41 ls st m) : AW D 15 Q 41 ls st m := AW_step chk_X3_roundsToBreak h
theorem st_X3_roundsToBreak_58 {D : Nat} {Q : APost} {ls : AL} {st : List AV} {m : AM} (h : exP (aCC D) D false (AW D 15 Q) Q bX3_roundsToBreak_58 ls st m) : AW D 15 Q 58 ls st m := AW_step chk_X3_roundsToBreak h
theorem st_X3_roundsToBreak_60 {D : Nat} {Q : APost} {ls : AL} {st : List AV} {m : AM} (h : exP (aCC D) D false (AW D 15 Q) Q bX3_roundsToBreak_60 ls st m) : AW D 15 Q 60 ls st m := AW_step chk_X3_roundsToBreak h
theorem st_X3_roundsToBreak_68 {D : Nat} {Q : APost} {ls : AL} {st : List AV} {m : AM} (h : exP (aCC D) D false (AW D 15 Q) Q bX3_roundsToBreak_68 ls st m) : AW D 15 Q 68 ls st m := AW_step chk_X3_roundsToBreak h
theorem st_X3_roundsToBreak_70 {D : Nat} {Q : APost} {ls : AL} {st : List AV} {m : AM} (h : exP (aCC D) D false (AW D 15 Q) Q bX3_roundsToBreak_70 ls st m) : AW D 15 Q 70 ls st m := AW_step chk_X3_roundsToBreak h
theorem st_X3_roundsToBreak_76 {D : Nat} {Q : APost} {ls : AL} {st : List AV} {m : AM} (h : exP (aCC D) D false (AW D 15 Q) Q bX3_roundsToBreak_76 ls st m) : AW D 15 Q 76 ls st m := AW_step chk_X3_roundsToBreak h
set_option maxRecDepth 100000 in
theorem chk_X3_firstBroken : chkM 16 = true := by decide +kernel
set_option maxRecDepth 100000 in
theorem own_X3_firstBroken : ((mNm 16).cls = cNm (mOwn 16) ∧ plainName (mNm 16).cls = true) ∧ mMax 16 = 3 := by decide +kernel
theorem st_X3_firstBroken_0 {D : Nat} {Q : APost} {ls : AL} {st : List AV} {m : AM} (h : exP (aCC D) D false (AW D 16 Q) Q bX3_firstBroken_0 ls st m) : AW D 16 Q 0 ls st m := AW_step chk_X3_firstBroken h
theorem st_X3_firstBroken_2 {D : Nat} {Q : APost} {ls : AL} {st : List AV} {m : AM} (h : exP (aCC D) D false (AW D 16 Q) Q bX3_firstBroken_2 ls st m) : AW D 16 Q 2 ls st m := AW_step chk_X3_firstBroken h
theorem st_X3_firstBroken_8 {D : Nat} {Q : APost} {ls : AL} {st : List AV} {m : AM} (h : exP (aCC D) D false (AW D 16 Q) Q bX3_firstBroken_8 ls st m) : AW D 16 Q 8 ls st m := AW_step chk_X3_firstBroken h
theorem st_X3_firstBroken_16 {D : Nat} {Q : APost} {ls : AL} {st : List AV} {m : AM} (h : exP (aCC D) D false (AW D 16 Q) Q bX3_firstBroken_16 ls st m) : AW D 16 Q 16 ls st m := AW_step chk_X3_firstBroken h
theorem st_X3_firstBroken_31 {D : Nat} {Q : APost} {ls : AL} {st : List AV} {m : AM} (h : exP (aCC D) D false (AW D 16 Q) Q bX3_firstBroken_31 ls st m) : AW D 16 Q 31 ls st m := AW_step chk_X3_firstBroken h
theorem st_X3_firstBroken_33 {D : Nat} {Q : APost} {ls : AL} {st : List AV} {m : AM} (h : exP (aCC D) D false (AW D 16 Q) Q bX3_firstBroken_33 ls st m) : AW D 16 Q 33 ls st m := AW_step chk_X3_firstBroken h
theorem st_X3_firstBroken_39 {D : Nat} {Q : APost} {ls : AL} {st : List AV} {m : AM} (h : exP (aCC D) D false (AW D 16 Q) Q bX3_firstBroken_39 ls st m) : AW D 16 Q 39 ls st m := AW_step chk_X3_firstBroken h
set_option maxRecDepth 100000 in
theorem chk_X3_lowerOnce : chkM 17 = true := by decide +kernel
set_option maxRecDepth 100000 in
theorem own_X3_lowerOnce : ((mNm 17).cls = cNm (mOwn 17) ∧ plainName (mNm 17).cls = true) ∧ mMax 17 = 7 := by decide +kernel
theorem st_X3_lowerOnce_0 {D : Nat} {Q : APost} {ls : AL} {st : List AV} {m : AM} (h : exP (aCC D) D true (AW D 17 Q) Q bX3_lowerOnce_0 ls st m) : AW D 17 Q 0 ls st m := AW_step chk_X3_lowerOnce h
theorem st_X3_lowerOnce_19 {D : Nat} {Q : APost} {ls : AL} {st : List AV} {m : AM} (h : exP (aCC D) D true (AW D 17 Q) Q bX3_lowerOnce_19 ls st m) : AW D 17 Q 19 ls st m := AW_step chk_X3_lowerOnce h
theorem st_X3_lowerOnce_25 {D : Nat} {Q : APost} {ls : AL} {st : List AV} {m : AM} (h : exP (aCC D) D true (AW D 17 Q) Q bX3_lowerOnce_25 ls st m) : AW D 17 Q 25 ls st m := AW_step chk_X3_lowerOnce h
theorem st_X3_lowerOnce_33 {D : Nat} {Q : APost} {ls : AL} {st : List AV} {m : AM} (h : exP (aCC D) D true (AW D 17 Q) Q bX3_lowerOnce_33 ls st m) : AW D 17 Q 33 ls st m := AW_step chk_X3_lowerOnce h
theorem st_X3_lowerOnce_51 {D : Nat} {Q : APost} {ls : AL} {st : List AV} {m : AM} (h : exP (aCC D) D true (AW D 17 Q) Q bX3_lowerOnce_51 ls st m) : AW D 17 Q 51 ls st m := AW_step chk_X3_lowerOnce h
theorem st_X3_lowerOnce_52 {D : Nat} {Q : APost} {ls : AL} {st : List AV} {m : AM} (h : exP (aCC D) D true (AW D 17 Q) Q bX3_lowerOnce_52 ls st m) : AW D 17 Q 52 ls st m := AW_step chk_X3_lowerOnce h
theorem st_X3_lowerOnce_57 {D : Nat} {Q : APost} {ls : AL} {st : List AV} {m : AM} (h : exP (aCC D) D true (AW D 17 Q) Q bX3_lowerOnce_57 ls st m) : AW D 17 Q 57 ls st m := AW_step chk_X3_lowerOnce h
theorem st_X3_lowerOnce_64 {D : Nat} {Q : APost} {ls : AL} {st : List AV} {m : AM} (h : exP (aCC D) D true (AW D 17 Q) Q bX3_lowerOnce_64 ls st m) : AW D 17 Q 64 ls st m := AW_step chk_X3_lowerOnce h
theorem st_X3_lowerOnce_69 {D : Nat} {Q : APost} {ls : AL} {st : List AV} {m : AM} (h : exP (aCC D) D true (AW D 17 Q) Q bX3_lowerOnce_69 ls st m) : AW D 17 Q 69 ls st m := AW_step chk_X3_lowerOnce h
theorem st_X3_lowerOnce_83 {D : Nat} {Q : APost} {ls : AL} {st : List AV} {m : AM} (h : exP (aCC D) D true (AW D 17 Q) Q bX3_lowerOnce_83 ls st m) : AW D 17 Q 83 ls st m := AW_step chk_X3_lowerOnce h
theorem st_X3_lowerOnce_92 {D : Nat} {Q : APost} {ls : AL} {st : List AV} {m : AM} (h : exP (aCC D) D true (AW D 17 Q) Q bX3_lowerOnce_92 ls st m) : AW D 17 Q 92 ls st m := AW_step chk_X3_lowerOnce h
theorem st_X3_lowerOnce_103 {D : Nat} {Q : APost} {ls : AL} {st : List AV} {m : AM} (h : exP (aCC D) D true (AW D 17 Q) Q bX3_lowerOnce_103 ls st m) : AW D 17 Q 103 ls st m := AW_step chk_X3_lowerOnce h
theorem st_X3_lowerOnce_115 {D : Nat} {Q : APost} {ls : AL} {st : List AV} {m : AM} (h : exP (aCC D) D true (AW D 17 Q) Q bX3_lowerOnce_115 ls st m) : AW D 17 Q 115 ls st m := AW_step chk_X3_lowerOnce h
theorem st_X3_lowerOnce_127 {D : Nat} {Q : APost} {ls : AL} {st : List AV} {m : AM} (h : exP (aCC D) D true (AW D 17 Q) Q bX3_lowerOnce_127 ls st m) : AW D 17 Q 127 ls st m := AW_step chk_X3_lowerOnce h
theorem st_X3_lowerOnce_146 {D : Nat} {Q : APost} {ls : AL} {st : List AV} {m : AM} (h : exP (aCC D) D true (AW D 17 Q) Q bX3_lowerOnce_146 ls st m) : AW D 17 Q 146 ls st m := AW_step chk_X3_lowerOnce h
theorem st_X3_lowerOnce_152 {D : Nat} {Q : APost} {ls : AL} {st : List AV} {m : AM} (h : exP (aCC D) D true (AW D 17 Q) Q bX3_lowerOnce_152 ls st m) : AW D 17 Q 152 ls st m := AW_step chk_X3_lowerOnce h
theorem st_X3_lowerOnce_158 {D : Nat} {Q : APost} {ls : AL} {st : List AV} {m : AM} (h : exP (aCC D) D true (AW D 17 Q) Q bX3_lowerOnce_158 ls st m) : AW D 17 Q 158 ls st m := AW_step chk_X3_lowerOnce h
set_option maxRecDepth 100000 in
theorem chk_X3_raiseOnce : chkM 18 = true := by decide +kernel
set_option maxRecDepth 100000 in
theorem own_X3_raiseOnce : ((mNm 18).cls = cNm (mOwn 18) ∧ plainName (mNm 18).cls = true) ∧ mMax 18 = 7 := by decide +kernel
theorem st_X3_raiseOnce_0 {D : Nat} {Q : APost} {ls : AL} {st : List AV} {m : AM} (h : exP (aCC D) D true (AW D 18 Q) Q bX3_raiseOnce_0 ls st m) : AW D 18 Q 0 ls st m := AW_step chk_X3_raiseOnce h
theorem st_X3_raiseOnce_4 {D : Nat} {Q : APost} {ls : AL} {st : List AV} {m : AM} (h : exP (aCC D) D true (AW D 18 Q) Q bX3_raiseOnce_4 ls st m) : AW D 18 Q 4 ls st m := AW_step chk_X3_raiseOnce h
theorem st_X3_raiseOnce_10 {D : Nat} {Q : APost} {ls : AL} {st : List AV} {m : AM} (h : exP (aCC D) D true (AW D 18 Q) Q bX3_raiseOnce_10 ls st m) : AW D 18 Q 10 ls st m := AW_step chk_X3_raiseOnce h
theorem st_X3_raiseOnce_18 {D : Nat} {Q : APost} {ls : AL} {st : List AV} {m : AM} (h : exP (aCC D) D true (AW D 18 Q) Q bX3_raiseOnce_18 ls st m) : AW D 18 Q 18 ls st m := AW_step chk_X3_raiseOnce h
theorem st_X3_raiseOnce_36 {D : Nat} {Q : APost} {ls : AL} {st : List AV} {m : AM} (h : exP (aCC D) D true (AW D 18 Q) Q bX3_raiseOnce_36 ls st m) : AW D 18 Q 36 ls st m := AW_step chk_X3_raiseOnce h
theorem st_X3_raiseOnce_37 {D : Nat} {Q : APost} {ls : AL} {st : List AV} {m : AM} (h : exP (aCC D) D true (AW D 18 Q) Q bX3_raiseOnce_37 ls st m) : AW D 18 Q 37 ls st m := AW_step chk_X3_raiseOnce h
theorem st_X3_raiseOnce_42 {D : Nat} {Q : APost} {ls : AL} {st : List AV} {m : AM} (h : exP (aCC D) D true (AW D 18 Q) Q bX3_raiseOnce_42 ls st m) : AW D 18 Q 42 ls st m := AW_step chk_X3_raiseOnce h
theorem st_X3_raiseOnce_49 {D : Nat} {Q : APost} {ls : AL} {st : List AV} {m : AM} (h : exP (aCC D) D true (AW D 18 Q) Q bX3_raiseOnce_49 ls st m) : AW D 18 Q 49 ls st m := AW_step chk_X3_raiseOnce h
theorem st_X3_raiseOnce_54 {D : Nat} {Q : APost} {ls : AL} {st : List AV} {m : AM} (h : exP (aCC D) D true (AW D 18 Q) Q bX3_raiseOnce_54 ls st m) : AW D 18 Q 54 ls st m := AW_step chk_X3_raiseOnce h
theorem st_X3_raiseOnce_68 {D : Nat} {Q : APost} {ls : AL} {st : List AV} {m : AM} (h : exP (aCC D) D true (AW D 18 Q) Q bX3_raiseOnce_68 ls st m) : AW D 18 Q 68 ls st m := AW_step chk_X3_raiseOnce h
theorem st_X3_raiseOnce_78 {D : Nat} {Q : APost} {ls : AL} {st : List AV} {m : AM} (h : exP (aCC D) D true (AW D 18 Q) Q bX3_raiseOnce_78 ls st m) : AW D 18 Q 78 ls st m := AW_step chk_X3_raiseOnce h
theorem st_X3_raiseOnce_90 {D : Nat} {Q : APost} {ls : AL} {st : List AV} {m : AM} (h : exP (aCC D) D true (AW D 18 Q) Q bX3_raiseOnce_90 ls st m) : AW D 18 Q 90 ls st m := AW_step chk_X3_raiseOnce h
theorem st_X3_raiseOnce_102 {D : Nat} {Q : APost} {ls : AL} {st : List AV} {m : AM} (h : exP (aCC D) D true (AW D 18 Q) Q bX3_raiseOnce_102 ls st m) : AW D 18 Q 102 ls st m := AW_step chk_X3_raiseOnce h
theorem st_X3_raiseOnce_113 {D : Nat} {Q : APost} {ls : AL} {st : List AV} {m : AM} (h : exP (aCC D) D true (AW D 18 Q) Q bX3_raiseOnce_113 ls st m) : AW D 18 Q 113 ls st m := AW_step chk_X3_raiseOnce h
theorem st_X3_raiseOnce_123 {D : Nat} {Q : APost} {ls : AL} {st : List AV} {m : AM} (h : exP (aCC D) D true (AW D 18 Q) Q bX3_raiseOnce_123 ls st m) : AW D 18 Q 123 ls st m := AW_step chk_X3_raiseOnce h
theorem st_X3_raiseOnce_129 {D : Nat} {Q : APost} {ls : AL} {st : List AV} {m : AM} (h : exP (aCC D) D true (AW D 18 Q) Q bX3_raiseOnce_129 ls st m) : AW D 18 Q 129 ls st m := AW_step chk_X3_raiseOnce h
theorem st_X3_raiseOnce_135 {D : Nat} {Q : APost} {ls : AL} {st : List AV} {m : AM} (h : exP (aCC D) D true (AW D 18 Q) Q bX3_raiseOnce_135 ls st m) : AW D 18 Q 135 ls st m := AW_step chk_X3_raiseOnce h
set_option maxRecDepth 100000 in
theorem chk_X3_conflictIn : chkM 19 = true := by decide +kernel
set_option maxRecDepth 100000 in
theorem own_X3_conflictIn : ((mNm 19).cls = cNm (mOwn 19) ∧ plainName (mNm 19).cls = true) ∧ mMax 19 = 5 := by decide +kernel
theorem st_X3_conflictIn_0 {D : Nat} {Q : APost} {ls : AL} {st : List AV} {m : AM} (h : exP (aCC D) D false (AW D 19 Q) Q bX3_conflictIn_0 ls st m) : AW D 19 Q 0 ls st m := AW_step chk_X3_conflictIn h
theorem st_X3_conflictIn_9 {D : Nat} {Q : APost} {ls : AL} {st : List AV} {m : AM} (h : exP (aCC D) D false (AW D 19 Q) Q bX3_conflictIn_9 ls st m) : AW D 19 Q 9 ls st m := AW_step chk_X3_conflictIn h
theorem st_X3_conflictIn_11 {D : Nat} {Q : APost} {ls : AL} {st : List AV} {m : AM} (h : exP (aCC D) D false (AW D 19 Q) Q bX3_conflictIn_11 ls st m) : AW D 19 Q 11 ls st m := AW_step chk_X3_conflictIn h
theorem st_X3_conflictIn_21 {D : Nat} {Q : APost} {ls : AL} {st : List AV} {m : AM} (h : exP (aCC D) D false (AW D 19 Q) Q bX3_conflictIn_21 ls st m) : AW D 19 Q 21 ls st m := AW_step chk_X3_conflictIn h
theorem st_X3_conflictIn_28 {D : Nat} {Q : APost} {ls : AL} {st : List AV} {m : AM} (h : exP (aCC D) D false (AW D 19 Q) Q bX3_conflictIn_28 ls st m) : AW D 19 Q 28 ls st m := AW_step chk_X3_conflictIn h
theorem st_X3_conflictIn_32 {D : Nat} {Q : APost} {ls : AL} {st : List AV} {m : AM} (h : exP (aCC D) D false (AW D 19 Q) Q bX3_conflictIn_32 ls st m) : AW D 19 Q 32 ls st m := AW_step chk_X3_conflictIn h
theorem st_X3_conflictIn_38 {D : Nat} {Q : APost} {ls : AL} {st : List AV} {m : AM} (h : exP (aCC D) D false (AW D 19 Q) Q bX3_conflictIn_38 ls st m) : AW D 19 Q 38 ls st m := AW_step chk_X3_conflictIn h
theorem st_X3_conflictIn_57 {D : Nat} {Q : APost} {ls : AL} {st : List AV} {m : AM} (h : exP (aCC D) D false (AW D 19 Q) Q bX3_conflictIn_57 ls st m) : AW D 19 Q 57 ls st m := AW_step chk_X3_conflictIn h
set_option maxRecDepth 100000 in
theorem chk_X3_quarrelIn : chkM 20 = true := by decide +kernel
set_option maxRecDepth 100000 in
theorem own_X3_quarrelIn : ((mNm 20).cls = cNm (mOwn 20) ∧ plainName (mNm 20).cls = true) ∧ mMax 20 = 6 := by decide +kernel
theorem st_X3_quarrelIn_0 {D : Nat} {Q : APost} {ls : AL} {st : List AV} {m : AM} (h : exP (aCC D) D false (AW D 20 Q) Q bX3_quarrelIn_0 ls st m) : AW D 20 Q 0 ls st m := AW_step chk_X3_quarrelIn h
theorem st_X3_quarrelIn_11 {D : Nat} {Q : APost} {ls : AL} {st : List AV} {m : AM} (h : exP (aCC D) D false (AW D 20 Q) Q bX3_quarrelIn_11 ls st m) : AW D 20 Q 11 ls st m := AW_step chk_X3_quarrelIn h
theorem st_X3_quarrelIn_13 {D : Nat} {Q : APost} {ls : AL} {st : List AV} {m : AM} (h : exP (aCC D) D false (AW D 20 Q) Q bX3_quarrelIn_13 ls st m) : AW D 20 Q 13 ls st m := AW_step chk_X3_quarrelIn h
theorem st_X3_quarrelIn_19 {D : Nat} {Q : APost} {ls : AL} {st : List AV} {m : AM} (h : exP (aCC D) D false (AW D 20 Q) Q bX3_quarrelIn_19 ls st m) : AW D 20 Q 19 ls st m := AW_step chk_X3_quarrelIn h
theorem st_X3_quarrelIn_24 {D : Nat} {Q : APost} {ls : AL} {st : List AV} {m : AM} (h : exP (aCC D) D false (AW D 20 Q) Q bX3_quarrelIn_24 ls st m) : AW D 20 Q 24 ls st m := AW_step chk_X3_quarrelIn h
theorem st_X3_quarrelIn_40 {D : Nat} {Q : APost} {ls : AL} {st : List AV} {m : AM} (h : exP (aCC D) D false (AW D 20 Q) Q bX3_quarrelIn_40 ls st m) : AW D 20 Q 40 ls st m := AW_step chk_X3_quarrelIn h
theorem st_X3_quarrelIn_50 {D : Nat} {Q : APost} {ls : AL} {st : List AV} {m : AM} (h : exP (aCC D) D false (AW D 20 Q) Q bX3_quarrelIn_50 ls st m) : AW D 20 Q 50 ls st m := AW_step chk_X3_quarrelIn h
theorem st_X3_quarrelIn_53 {D : Nat} {Q : APost} {ls : AL} {st : List AV} {m : AM} (h : exP (aCC D) D false (AW D 20 Q) Q bX3_quarrelIn_53 ls st m) : AW D 20 Q 53 ls st m := AW_step chk_X3_quarrelIn h
theorem st_X3_quarrelIn_59 {D : Nat} {Q : APost} {ls : AL} {st : List AV} {m : AM} (h : exP (aCC D) D false (AW D 20 Q) Q bX3_quarrelIn_59 ls st m) : AW D 20 Q 59 ls st m := AW_step chk_X3_quarrelIn h
set_option maxRecDepth 100000 in
theorem chk_X3_keepYears : chkM 21 = true := by decide +kernel
set_option maxRecDepth 100000 in
theorem own_X3_keepYears : ((mNm 21).cls = cNm (mOwn 21) ∧ plainName (mNm 21).cls = true) ∧ mMax 21 = 3 := by decide +kernel
theorem st_X3_keepYears_0 {D : Nat} {Q : APost} {ls : AL} {st : List AV} {m : AM} (h : exP (aCC D) D false (AW D 21 Q) Q bX3_keepYears_0 ls st m) : AW D 21 Q 0 ls st m := AW_step chk_X3_keepYears h
theorem st_X3_keepYears_38 {D : Nat} {Q : APost} {ls : AL} {st : List AV} {m : AM} (h : exP (aCC D) D false (AW D 21 Q) Q bX3_keepYears_38 ls st m) : AW D 21 Q 38 ls st m := AW_step chk_X3_keepYears h
theorem st_X3_keepYears_44 {D : Nat} {Q : APost} {ls : AL} {st : List AV} {m : AM} (h : exP (aCC D) D false (AW D 21 Q) Q bX3_keepYears_44 ls st m) : AW D 21 Q 44 ls st m := AW_step chk_X3_keepYears h
theorem st_X3_keepYears_52 {D : Nat} {Q : APost} {ls : AL} {st : List AV} {m : AM} (h : exP (aCC D) D false (AW D 21 Q) Q bX3_keepYears_52 ls st m) : AW D 21 Q 52 ls st m := AW_step chk_X3_keepYears h
theorem st_X3_keepYears_55 {D : Nat} {Q : APost} {ls : AL} {st : List AV} {m : AM} (h : exP (aCC D) D false (AW D 21 Q) Q bX3_keepYears_55 ls st m) : AW D 21 Q 55 ls st m := AW_step chk_X3_keepYears h
theorem st_X3_keepYears_61 {D : Nat} {Q : APost} {ls : AL} {st : List AV} {m : AM} (h : exP (aCC D) D false (AW D 21 Q) Q bX3_keepYears_61 ls st m) : AW D 21 Q 61 ls st m := AW_step chk_X3_keepYears h
set_option maxRecDepth 100000 in
theorem chk_X4_putBytes : chkM 22 = true := by decide +kernel
set_option maxRecDepth 100000 in
theorem own_X4_putBytes : ((mNm 22).cls = cNm (mOwn 22) ∧ plainName (mNm 22).cls = true) ∧ mMax 22 = 3 := by decide +kernel
theorem st_X4_putBytes_0 {D : Nat} {Q : APost} {ls : AL} {st : List AV} {m : AM} (h : exP (aCC D) D false (AW D 22 Q) Q bX4_putBytes_0 ls st m) : AW D 22 Q 0 ls st m := AW_step chk_X4_putBytes h
theorem st_X4_putBytes_3 {D : Nat} {Q : APost} {ls : AL} {st : List AV} {m : AM} (h : exP (aCC D) D false (AW D 22 Q) Q bX4_putBytes_3 ls st m) : AW D 22 Q 3 ls st m := AW_step chk_X4_putBytes h
theorem st_X4_putBytes_7 {D : Nat} {Q : APost} {ls : AL} {st : List AV} {m : AM} (h : exP (aCC D) D false (AW D 22 Q) Q bX4_putBytes_7 ls st m) : AW D 22 Q 7 ls st m := AW_step chk_X4_putBytes h
theorem st_X4_putBytes_14 {D : Nat} {Q : APost} {ls : AL} {st : List AV} {m : AM} (h : exP (aCC D) D false (AW D 22 Q) Q bX4_putBytes_14 ls st m) : AW D 22 Q 14 ls st m := AW_step chk_X4_putBytes h
theorem st_X4_putBytes_23 {D : Nat} {Q : APost} {ls : AL} {st : List AV} {m : AM} (h : exP (aCC D) D false (AW D 22 Q) Q bX4_putBytes_23 ls st m) : AW D 22 Q 23 ls st m := AW_step chk_X4_putBytes h
theorem st_X4_putBytes_49 {D : Nat} {Q : APost} {ls : AL} {st : List AV} {m : AM} (h : exP (aCC D) D false (AW D 22 Q) Q bX4_putBytes_49 ls st m) : AW D 22 Q 49 ls st m := AW_step chk_X4_putBytes h
theorem st_X4_putBytes_55 {D : Nat} {Q : APost} {ls : AL} {st : List AV} {m : AM} (h : exP (aCC D) D false (AW D 22 Q) Q bX4_putBytes_55 ls st m) : AW D 22 Q 55 ls st m := AW_step chk_X4_putBytes h
set_option maxRecDepth 100000 in
theorem chk_X4_take : chkM 23 = true := by decide +kernel
set_option maxRecDepth 100000 in
theorem own_X4_take : ((mNm 23).cls = cNm (mOwn 23) ∧ plainName (mNm 23).cls = true) ∧ mMax 23 = 4 := by decide +kernel
theorem st_X4_take_0 {D : Nat} {Q : APost} {ls : AL} {st : List AV} {m : AM} (h : exP (aCC D) D true (AW D 23 Q) Q bX4_take_0 ls st m) : AW D 23 Q 0 ls st m := AW_step chk_X4_take h
theorem st_X4_take_4 {D : Nat} {Q : APost} {ls : AL} {st : List AV} {m : AM} (h : exP (aCC D) D true (AW D 23 Q) Q bX4_take_4 ls st m) : AW D 23 Q 4 ls st m := AW_step chk_X4_take h
theorem st_X4_take_10 {D : Nat} {Q : APost} {ls : AL} {st : List AV} {m : AM} (h : exP (aCC D) D true (AW D 23 Q) Q bX4_take_10 ls st m) : AW D 23 Q 10 ls st m := AW_step chk_X4_take h
theorem st_X4_take_14 {D : Nat} {Q : APost} {ls : AL} {st : List AV} {m : AM} (h : exP (aCC D) D true (AW D 23 Q) Q bX4_take_14 ls st m) : AW D 23 Q 14 ls st m := AW_step chk_X4_take h
theorem st_X4_take_20 {D : Nat} {Q : APost} {ls : AL} {st : List AV} {m : AM} (h : exP (aCC D) D true (AW D 23 Q) Q bX4_take_20 ls st m) : AW D 23 Q 20 ls st m := AW_step chk_X4_take h
theorem st_X4_take_28 {D : Nat} {Q : APost} {ls : AL} {st : List AV} {m : AM} (h : exP (aCC D) D true (AW D 23 Q) Q bX4_take_28 ls st m) : AW D 23 Q 28 ls st m := AW_step chk_X4_take h
theorem st_X4_take_30 {D : Nat} {Q : APost} {ls : AL} {st : List AV} {m : AM} (h : exP (aCC D) D true (AW D 23 Q) Q bX4_take_30 ls st m) : AW D 23 Q 30 ls st m := AW_step chk_X4_take h
theorem st_X4_take_37 {D : Nat} {Q : APost} {ls : AL} {st : List AV} {m : AM} (h : exP (aCC D) D true (AW D 23 Q) Q bX4_take_37 ls st m) : AW D 23 Q 37 ls st m := AW_step chk_X4_take h
theorem st_X4_take_42 {D : Nat} {Q : APost} {ls : AL} {st : List AV} {m : AM} (h : exP (aCC D) D true (AW D 23 Q) Q bX4_take_42 ls st m) : AW D 23 Q 42 ls st m := AW_step chk_X4_take h
theorem st_X4_take_53 {D : Nat} {Q : APost} {ls : AL} {st : List AV} {m : AM} (h : exP (aCC D) D true (AW D 23 Q) Q bX4_take_53 ls st m) : AW D 23 Q 53 ls st m := AW_step chk_X4_take h
theorem st_X4_take_64 {D : Nat} {Q : APost} {ls : AL} {st : List AV} {m : AM} (h : exP (aCC D) D true (AW D 23 Q) Q bX4_take_64 ls st m) : AW D 23 Q 64 ls st m := AW_step chk_X4_take h
theorem st_X4_take_66 {D : Nat} {Q : APost} {ls : AL} {st : List AV} {m : AM} (h : exP (aCC D) D true (AW D 23 Q) Q bX4_take_66 ls st m) : AW D 23 Q 66 ls st m := AW_step chk_X4_take h
theorem st_X4_take_72 {D : Nat} {Q : APost} {ls : AL} {st : List AV} {m : AM} (h : exP (aCC D) D true (AW D 23 Q) Q bX4_take_72 ls st m) : AW D 23 Q 72 ls st m := AW_step chk_X4_take h
set_option maxRecDepth 100000 in
theorem chk_X4_findModel : chkM 24 = true := by decide +kernel
set_option maxRecDepth 100000 in
theorem own_X4_findModel : ((mNm 24).cls = cNm (mOwn 24) ∧ plainName (mNm 24).cls = true) ∧ mMax 24 = 3 := by decide +kernel
theorem st_X4_findModel_0 {D : Nat} {Q : APost} {ls : AL} {st : List AV} {m : AM} (h : exP (aCC D) D false (AW D 24 Q) Q bX4_findModel_0 ls st m) : AW D 24 Q 0 ls st m := AW_step chk_X4_findModel h
theorem st_X4_findModel_12 {D : Nat} {Q : APost} {ls : AL} {st : List AV} {m : AM} (h : exP (aCC D) D false (AW D 24 Q) Q bX4_findModel_12 ls st m) : AW D 24 Q 12 ls st m := AW_step chk_X4_findModel h
theorem st_X4_findModel_18 {D : Nat} {Q : APost} {ls : AL} {st : List AV} {m : AM} (h : exP (aCC D) D false (AW D 24 Q) Q bX4_findModel_18 ls st m) : AW D 24 Q 18 ls st m := AW_step chk_X4_findModel h
theorem st_X4_findModel_23 {D : Nat} {Q : APost} {ls : AL} {st : List AV} {m : AM} (h : exP (aCC D) D false (AW D 24 Q) Q bX4_findModel_23 ls st m) : AW D 24 Q 23 ls st m := AW_step chk_X4_findModel h
theorem st_X4_findModel_29 {D : Nat} {Q : APost} {ls : AL} {st : List AV} {m : AM} (h : exP (aCC D) D false (AW D 24 Q) Q bX4_findModel_29 ls st m) : AW D 24 Q 29 ls st m := AW_step chk_X4_findModel h
theorem st_X4_findModel_35 {D : Nat} {Q : APost} {ls : AL} {st : List AV} {m : AM} (h : exP (aCC D) D false (AW D 24 Q) Q bX4_findModel_35 ls st m) : AW D 24 Q 35 ls st m := AW_step chk_X4_findModel h
set_option maxRecDepth 100000 in
theorem chk_X4_compareWith : chkM 25 = true := by decide +kernel
set_option maxRecDepth 100000 in
theorem own_X4_compareWith : ((mNm 25).cls = cNm (mOwn 25) ∧ plainName (mNm 25).cls = true) ∧ mMax 25 = 6 := by decide +kernel
theorem st_X4_compareWith_0 {D : Nat} {Q : APost} {ls : AL} {st : List AV} {m : AM} (h : exP (aCC D) D false (AW D 25 Q) Q bX4_compareWith_0 ls st m) : AW D 25 Q 0 ls st m := AW_step chk_X4_compareWith h
theorem st_X4_compareWith_2 {D : Nat} {Q : APost} {ls : AL} {st : List AV} {m : AM} (h : exP (aCC D) D false (AW D 25 Q) Q bX4_compareWith_2 ls st m) : AW D 25 Q 2 ls st m := AW_step chk_X4_compareWith h
theorem st_X4_compareWith_8 {D : Nat} {Q : APost} {ls : AL} {st : List AV} {m : AM} (h : exP (aCC D) D false (AW D 25 Q) Q bX4_compareWith_8 ls st m) : AW D 25 Q 8 ls st m := AW_step chk_X4_compareWith h
theorem st_X4_compareWith_11 {D : Nat} {Q : APost} {ls : AL} {st : List AV} {m : AM} (h : exP (aCC D) D false (AW D 25 Q) Q bX4_compareWith_11 ls st m) : AW D 25 Q 11 ls st m := AW_step chk_X4_compareWith h
theorem st_X4_compareWith_18 {D : Nat} {Q : APost} {ls : AL} {st : List AV} {m : AM} (h : exP (aCC D) D false (AW D 25 Q) Q bX4_compareWith_18 ls st m) : AW D 25 Q 18 ls st m := AW_step chk_X4_compareWith h
theorem st_X4_compareWith_38 {D : Nat} {Q : APost} {ls : AL} {st : List AV} {m : AM} (h : exP (aCC D) D false (AW D 25 Q) Q bX4_compareWith_38 ls st m) : AW D 25 Q 38 ls st m := AW_step chk_X4_compareWith h
theorem st_X4_compareWith_60 {D : Nat} {Q : APost} {ls : AL} {st : List AV} {m : AM} (h : exP (aCC D) D false (AW D 25 Q) Q bX4_compareWith_60 ls st m) : AW D 25 Q 60 ls st m := AW_step chk_X4_compareWith h
theorem st_X4_compareWith_66 {D : Nat} {Q : APost} {ls : AL} {st : List AV} {m : AM} (h : exP (aCC D) D false (AW D 25 Q) Q bX4_compareWith_66 ls st m) : AW D 25 Q 66 ls st m := AW_step chk_X4_compareWith h
theorem st_X4_compareWith_72 {D : Nat} {Q : APost} {ls : AL} {st : List AV} {m : AM} (h : exP (aCC D) D false (AW D 25 Q) Q bX4_compareWith_72 ls st m) : AW D 25 Q 72 ls st m := AW_step chk_X4_compareWith h
set_option maxRecDepth 100000 in
theorem chk_X4_alike : chkM 26 = true := by decide +kernel
set_option maxRecDepth 100000 in
theorem own_X4_alike : ((mNm 26).cls = cNm (mOwn 26) ∧ plainName (mNm 26).cls = true) ∧ mMax 26 = 7 := by decide +kernel
theorem st_X4_alike_0 {D : Nat} {Q : APost} {ls : AL} {st : List AV} {m : AM} (h : exP (aCC D) D false (AW D 26 Q) Q bX4_alike_0 ls st m) : AW D 26 Q 0 ls st m := AW_step chk_X4_alike h
theorem st_X4_alike_4 {D : Nat} {Q : APost} {ls : AL} {st : List AV} {m : AM} (h : exP (aCC D) D false (AW D 26 Q) Q bX4_alike_4 ls st m) : AW D 26 Q 4 ls st m := AW_step chk_X4_alike h
theorem st_X4_alike_10 {D : Nat} {Q : APost} {ls : AL} {st : List AV} {m : AM} (h : exP (aCC D) D false (AW D 26 Q) Q bX4_alike_10 ls st m) : AW D 26 Q 10 ls st m := AW_step chk_X4_alike h
theorem st_X4_alike_14 {D : Nat} {Q : APost} {ls : AL} {st : List AV} {m : AM} (h : exP (aCC D) D false (AW D 26 Q) Q bX4_alike_14 ls st m) : AW D 26 Q 14 ls st m := AW_step chk_X4_alike h
theorem st_X4_alike_20 {D : Nat} {Q : APost} {ls : AL} {st : List AV} {m : AM} (h : exP (aCC D) D false (AW D 26 Q) Q bX4_alike_20 ls st m) : AW D 26 Q 20 ls st m := AW_step chk_X4_alike h
theorem st_X4_alike_22 {D : Nat} {Q : APost} {ls : AL} {st : List AV} {m : AM} (h : exP (aCC D) D false (AW D 26 Q) Q bX4_alike_22 ls st m) : AW D 26 Q 22 ls st m := AW_step chk_X4_alike h
theorem st_X4_alike_53 {D : Nat} {Q : APost} {ls : AL} {st : List AV} {m : AM} (h : exP (aCC D) D false (AW D 26 Q) Q bX4_alike_53 ls st m) : AW D 26 Q 53 ls st m := AW_step chk_X4_alike h
theorem st_X4_alike_55 {D : Nat} {Q : APost} {ls : AL} {st : List AV} {m : AM} (h : exP (aCC D) D false (AW D 26 Q) Q bX4_alike_55 ls st m) : AW D 26 Q 55 ls st m := AW_step chk_X4_alike h
theorem st_X4_alike_58 {D : Nat} {Q : APost} {ls : AL} {st : List AV} {m : AM} (h : exP (aCC D) D false (AW D 26 Q) Q bX4_alike_58 ls st m) : AW D 26 Q 58 ls st m := AW_step chk_X4_alike h
theorem st_X4_alike_65 {D : Nat} {Q : APost} {ls : AL} {st : List AV} {m : AM} (h : exP (aCC D) D false (AW D 26 Q) Q bX4_alike_65 ls st m) : AW D 26 Q 65 ls st m := AW_step chk_X4_alike h
theorem st_X4_alike_97 {D : Nat} {Q : APost} {ls : AL} {st : List AV} {m : AM} (h : exP (aCC D) D false (AW D 26 Q) Q bX4_alike_97 ls st m) : AW D 26 Q 97 ls st m := AW_step chk_X4_alike h
theorem st_X4_alike_103 {D : Nat} {Q : APost} {ls : AL} {st : List AV} {m : AM} (h : exP (aCC D) D false (AW D 26 Q) Q bX4_alike_103 ls st m) : AW D 26 Q 103 ls st m := AW_step chk_X4_alike h
set_option maxRecDepth 100000 in
theorem chk_X5_person : chkM 27 = true := by decide +kernel
set_option maxRecDepth 100000 in
theorem own_X5_person : ((mNm 27).cls = cNm (mOwn 27) ∧ plainName (mNm 27).cls = true) ∧ mMax 27 = 3 := by decide +kernel
theorem st_X5_person_0 {D : Nat} {Q : APost} {ls : AL} {st : List AV} {m : AM} (h : exP (aCC D) D false (AW D 27 Q) Q bX5_person_0 ls st m) : AW D 27 Q 0 ls st m := AW_step chk_X5_person h
set_option maxRecDepth 100000 in
theorem chk_X5_lived : chkM 28 = true := by decide +kernel
set_option maxRecDepth 100000 in
theorem own_X5_lived : ((mNm 28).cls = cNm (mOwn 28) ∧ plainName (mNm 28).cls = true) ∧ mMax 28 = 4 := by decide +kernel
theorem st_X5_lived_0 {D : Nat} {Q : APost} {ls : AL} {st : List AV} {m : AM} (h : exP (aCC D) D true (AW D 28 Q) Q bX5_lived_0 ls st m) : AW D 28 Q 0 ls st m := AW_step chk_X5_lived h
theorem st_X5_lived_13 {D : Nat} {Q : APost} {ls : AL} {st : List AV} {m : AM} (h : exP (aCC D) D true (AW D 28 Q) Q bX5_lived_13 ls st m) : AW D 28 Q 13 ls st m := AW_step chk_X5_lived h
theorem st_X5_lived_15 {D : Nat} {Q : APost} {ls : AL} {st : List AV} {m : AM} (h : exP (aCC D) D true (AW D 28 Q) Q bX5_lived_15 ls st m) : AW D 28 Q 15 ls st m := AW_step chk_X5_lived h
set_option maxRecDepth 100000 in
theorem chk_X5_formula : chkM 29 = true := by decide +kernel
set_option maxRecDepth 100000 in
theorem own_X5_formula : ((mNm 29).cls = cNm (mOwn 29) ∧ plainName (mNm 29).cls = true) ∧ mMax 29 = 3 := by decide +kernel
theorem st_X5_formula_0 {D : Nat} {Q : APost} {ls : AL} {st : List AV} {m : AM} (h : exP (aCC D) D false (AW D 29 Q) Q bX5_formula_0 ls st m) : AW D 29 Q 0 ls st m := AW_step chk_X5_formula h
set_option maxRecDepth 100000 in
theorem chk_X5_seal : chkM 30 = true := by decide +kernel
set_option maxRecDepth 100000 in
theorem own_X5_seal : ((mNm 30).cls = cNm (mOwn 30) ∧ plainName (mNm 30).cls = true) ∧ mMax 30 = 3 := by decide +kernel
theorem st_X5_seal_0 {D : Nat} {Q : APost} {ls : AL} {st : List AV} {m : AM} (h : exP (aCC D) D false (AW D 30 Q) Q bX5_seal_0 ls st m) : AW D 30 Q 0 ls st m := AW_step chk_X5_seal h
set_option maxRecDepth 100000 in
theorem chk_X5_span : chkM 31 = true := by decide +kernel
set_option maxRecDepth 100000 in
theorem own_X5_span : ((mNm 31).cls = cNm (mOwn 31) ∧ plainName (mNm 31).cls = true) ∧ mMax 31 = 2 := by decide +kernel
theorem st_X5_span_0 {D : Nat} {Q : APost} {ls : AL} {st : List AV} {m : AM} (h : exP (aCC D) D true (AW D 31 Q) Q bX5_span_0 ls st m) : AW D 31 Q 0 ls st m := AW_step chk_X5_span h
theorem st_X5_span_4 {D : Nat} {Q : APost} {ls : AL} {st : List AV} {m : AM} (h : exP (aCC D) D true (AW D 31 Q) Q bX5_span_4 ls st m) : AW D 31 Q 4 ls st m := AW_step chk_X5_span h
theorem st_X5_span_11 {D : Nat} {Q : APost} {ls : AL} {st : List AV} {m : AM} (h : exP (aCC D) D true (AW D 31 Q) Q bX5_span_11 ls st m) : AW D 31 Q 11 ls st m := AW_step chk_X5_span h
theorem st_X5_span_13 {D : Nat} {Q : APost} {ls : AL} {st : List AV} {m : AM} (h : exP (aCC D) D true (AW D 31 Q) Q bX5_span_13 ls st m) : AW D 31 Q 13 ls st m := AW_step chk_X5_span h
set_option maxRecDepth 100000 in
theorem chk_X5_deed : chkM 32 = true := by decide +kernel
set_option maxRecDepth 100000 in
theorem own_X5_deed : ((mNm 32).cls = cNm (mOwn 32) ∧ plainName (mNm 32).cls = true) ∧ mMax 32 = 5 := by decide +kernel
theorem st_X5_deed_0 {D : Nat} {Q : APost} {ls : AL} {st : List AV} {m : AM} (h : exP (aCC D) D false (AW D 32 Q) Q bX5_deed_0 ls st m) : AW D 32 Q 0 ls st m := AW_step chk_X5_deed h
theorem st_X5_deed_5 {D : Nat} {Q : APost} {ls : AL} {st : List AV} {m : AM} (h : exP (aCC D) D false (AW D 32 Q) Q bX5_deed_5 ls st m) : AW D 32 Q 5 ls st m := AW_step chk_X5_deed h
theorem st_X5_deed_11 {D : Nat} {Q : APost} {ls : AL} {st : List AV} {m : AM} (h : exP (aCC D) D false (AW D 32 Q) Q bX5_deed_11 ls st m) : AW D 32 Q 11 ls st m := AW_step chk_X5_deed h
theorem st_X5_deed_13 {D : Nat} {Q : APost} {ls : AL} {st : List AV} {m : AM} (h : exP (aCC D) D false (AW D 32 Q) Q bX5_deed_13 ls st m) : AW D 32 Q 13 ls st m := AW_step chk_X5_deed h
theorem st_X5_deed_29 {D : Nat} {Q : APost} {ls : AL} {st : List AV} {m : AM} (h : exP (aCC D) D false (AW D 32 Q) Q bX5_deed_29 ls st m) : AW D 32 Q 29 ls st m := AW_step chk_X5_deed h
theorem st_X5_deed_36 {D : Nat} {Q : APost} {ls : AL} {st : List AV} {m : AM} (h : exP (aCC D) D false (AW D 32 Q) Q bX5_deed_36 ls st m) : AW D 32 Q 36 ls st m := AW_step chk_X5_deed h
theorem st_X5_deed_38 {D : Nat} {Q : APost} {ls : AL} {st : List AV} {m : AM} (h : exP (aCC D) D false (AW D 32 Q) Q bX5_deed_38 ls st m) : AW D 32 Q 38 ls st m := AW_step chk_X5_deed h
set_option maxRecDepth 100000 in
theorem chk_X5_mark : chkM 33 = true := by decide +kernel
set_option maxRecDepth 100000 in
theorem own_X5_mark : ((mNm 33).cls = cNm (mOwn 33) ∧ plainName (mNm 33).cls = true) ∧ mMax 33 = 4 := by decide +kernel
theorem st_X5_mark_0 {D : Nat} {Q : APost} {ls : AL} {st : List AV} {m : AM} (h : exP (aCC D) D true (AW D 33 Q) Q bX5_mark_0 ls st m) : AW D 33 Q 0 ls st m := AW_step chk_X5_mark h
theorem st_X5_mark_11 {D : Nat} {Q : APost} {ls : AL} {st : List AV} {m : AM} (h : exP (aCC D) D true (AW D 33 Q) Q bX5_mark_11 ls st m) : AW D 33 Q 11 ls st m := AW_step chk_X5_mark h
theorem st_X5_mark_20 {D : Nat} {Q : APost} {ls : AL} {st : List AV} {m : AM} (h : exP (aCC D) D true (AW D 33 Q) Q bX5_mark_20 ls st m) : AW D 33 Q 20 ls st m := AW_step chk_X5_mark h
theorem st_X5_mark_25 {D : Nat} {Q : APost} {ls : AL} {st : List AV} {m : AM} (h : exP (aCC D) D true (AW D 33 Q) Q bX5_mark_25 ls st m) : AW D 33 Q 25 ls st m := AW_step chk_X5_mark h
theorem st_X5_mark_30 {D : Nat} {Q : APost} {ls : AL} {st : List AV} {m : AM} (h : exP (aCC D) D true (AW D 33 Q) Q bX5_mark_30 ls st m) : AW D 33 Q 30 ls st m := AW_step chk_X5_mark h
theorem st_X5_mark_32 {D : Nat} {Q : APost} {ls : AL} {st : List AV} {m : AM} (h : exP (aCC D) D true (AW D 33 Q) Q bX5_mark_32 ls st m) : AW D 33 Q 32 ls st m := AW_step chk_X5_mark h
theorem st_X5_mark_45 {D : Nat} {Q : APost} {ls : AL} {st : List AV} {m : AM} (h : exP (aCC D) D true (AW D 33 Q) Q bX5_mark_45 ls st m) : AW D 33 Q 45 ls st m := AW_step chk_X5_mark h
theorem st_X5_mark_47 {D : Nat} {Q : APost} {ls : AL} {st : List AV} {m : AM} (h : exP (aCC D) D true (AW D 33 Q) Q bX5_mark_47 ls st m) : AW D 33 Q 47 ls st m := AW_step chk_X5_mark h
set_option maxRecDepth 100000 in
theorem chk_X5_agree : chkM 34 = true := by decide +kernel
set_option maxRecDepth 100000 in
theorem own_X5_agree : ((mNm 34).cls = cNm (mOwn 34) ∧ plainName (mNm 34).cls = true) ∧ mMax 34 = 2 := by decide +kernel
theorem st_X5_agree_0 {D : Nat} {Q : APost} {ls : AL} {st : List AV} {m : AM} (h : exP (aCC D) D false (AW D 34 Q) Q bX5_agree_0 ls st m) : AW D 34 Q 0 ls st m := AW_step chk_X5_agree h
theorem st_X5_agree_8 {D : Nat} {Q : APost} {ls : AL} {st : List AV} {m : AM} (h : exP (aCC D) D false (AW D 34 Q) Q bX5_agree_8 ls st m) : AW D 34 Q 8 ls st m := AW_step chk_X5_agree h
theorem st_X5_agree_10 {D : Nat} {Q : APost} {ls : AL} {st : List AV} {m : AM} (h : exP (aCC D) D false (AW D 34 Q) Q bX5_agree_10 ls st m) : AW D 34 Q 10 ls st m := AW_step chk_X5_agree h
theorem st_X5_agree_26 {D : Nat} {Q : APost} {ls : AL} {st : List AV} {m : AM} (h : exP (aCC D) D false (AW D 34 Q) Q bX5_agree_26 ls st m) : AW D 34 Q 26 ls st m := AW_step chk_X5_agree h
theorem st_X5_agree_30 {D : Nat} {Q : APost} {ls : AL} {st : List AV} {m : AM} (h : exP (aCC D) D false (AW D 34 Q) Q bX5_agree_30 ls st m) : AW D 34 Q 30 ls st m := AW_step chk_X5_agree h
theorem st_X5_agree_31 {D : Nat} {Q : APost} {ls : AL} {st : List AV} {m : AM} (h : exP (aCC D) D false (AW D 34 Q) Q bX5_agree_31 ls st m) : AW D 34 Q 31 ls st m := AW_step chk_X5_agree h
set_option maxRecDepth 100000 in
theorem chk_X5_forged : chkM 35 = true := by decide +kernel
set_option maxRecDepth 100000 in
theorem own_X5_forged : ((mNm 35).cls = cNm (mOwn 35) ∧ plainName (mNm 35).cls = true) ∧ mMax 35 = 1 := by decide +kernel
theorem st_X5_forged_0 {D : Nat} {Q : APost} {ls : AL} {st : List AV} {m : AM} (h : exP (aCC D) D false (AW D 35 Q) Q bX5_forged_0 ls st m) : AW D 35 Q 0 ls st m := AW_step chk_X5_forged h
set_option maxRecDepth 100000 in
theorem chk_X5_weight : chkM 36 = true := by decide +kernel
set_option maxRecDepth 100000 in
theorem own_X5_weight : ((mNm 36).cls = cNm (mOwn 36) ∧ plainName (mNm 36).cls = true) ∧ mMax 36 = 2 := by decide +kernel
theorem st_X5_weight_0 {D : Nat} {Q : APost} {ls : AL} {st : List AV} {m : AM} (h : exP (aCC D) D false (AW D 36 Q) Q bX5_weight_0 ls st m) : AW D 36 Q 0 ls st m := AW_step chk_X5_weight h
theorem st_X5_weight_8 {D : Nat} {Q : APost} {ls : AL} {st : List AV} {m : AM} (h : exP (aCC D) D false (AW D 36 Q) Q bX5_weight_8 ls st m) : AW D 36 Q 8 ls st m := AW_step chk_X5_weight h
theorem st_X5_weight_19 {D : Nat} {Q : APost} {ls : AL} {st : List AV} {m : AM} (h : exP (aCC D) D false (AW D 36 Q) Q bX5_weight_19 ls st m) : AW D 36 Q 19 ls st m := AW_step chk_X5_weight h
theorem st_X5_weight_20 {D : Nat} {Q : APost} {ls : AL} {st : List AV} {m : AM} (h : exP (aCC D) D false (AW D 36 Q) Q bX5_weight_20 ls st m) : AW D 36 Q 20 ls st m := AW_step chk_X5_weight h
set_option maxRecDepth 100000 in
theorem chk_X5_year : chkM 37 = true := by decide +kernel
set_option maxRecDepth 100000 in
theorem own_X5_year : ((mNm 37).cls = cNm (mOwn 37) ∧ plainName (mNm 37).cls = true) ∧ mMax 37 = 3 := by decide +kernel
theorem st_X5_year_0 {D : Nat} {Q : APost} {ls : AL} {st : List AV} {m : AM} (h : exP (aCC D) D false (AW D 37 Q) Q bX5_year_0 ls st m) : AW D 37 Q 0 ls st m := AW_step chk_X5_year h
theorem st_X5_year_11 {D : Nat} {Q : APost} {ls : AL} {st : List AV} {m : AM} (h : exP (aCC D) D false (AW D 37 Q) Q bX5_year_11 ls st m) : AW D 37 Q 11 ls st m := AW_step chk_X5_year h
theorem st_X5_year_15 {D : Nat} {Q : APost} {ls : AL} {st : List AV} {m : AM} (h : exP (aCC D) D false (AW D 37 Q) Q bX5_year_15 ls st m) : AW D 37 Q 15 ls st m := AW_step chk_X5_year h
theorem st_X5_year_20 {D : Nat} {Q : APost} {ls : AL} {st : List AV} {m : AM} (h : exP (aCC D) D false (AW D 37 Q) Q bX5_year_20 ls st m) : AW D 37 Q 20 ls st m := AW_step chk_X5_year h
theorem st_X5_year_22 {D : Nat} {Q : APost} {ls : AL} {st : List AV} {m : AM} (h : exP (aCC D) D false (AW D 37 Q) Q bX5_year_22 ls st m) : AW D 37 Q 22 ls st m := AW_step chk_X5_year h
theorem st_X5_year_34 {D : Nat} {Q : APost} {ls : AL} {st : List AV} {m : AM} (h : exP (aCC D) D false (AW D 37 Q) Q bX5_year_34 ls st m) : AW D 37 Q 34 ls st m := AW_step chk_X5_year h
theorem st_X5_year_36 {D : Nat} {Q : APost} {ls : AL} {st : List AV} {m : AM} (h : exP (aCC D) D false (AW D 37 Q) Q bX5_year_36 ls st m) : AW D 37 Q 36 ls st m := AW_step chk_X5_year h
theorem st_X5_year_40 {D : Nat} {Q : APost} {ls : AL} {st : List AV} {m : AM} (h : exP (aCC D) D false (AW D 37 Q) Q bX5_year_40 ls st m) : AW D 37 Q 40 ls st m := AW_step chk_X5_year h
theorem st_X5_year_52 {D : Nat} {Q : APost} {ls : AL} {st : List AV} {m : AM} (h : exP (aCC D) D false (AW D 37 Q) Q bX5_year_52 ls st m) : AW D 37 Q 52 ls st m := AW_step chk_X5_year h
theorem st_X5_year_61 {D : Nat} {Q : APost} {ls : AL} {st : List AV} {m : AM} (h : exP (aCC D) D false (AW D 37 Q) Q bX5_year_61 ls st m) : AW D 37 Q 61 ls st m := AW_step chk_X5_year h
set_option maxRecDepth 100000 in
theorem chk_X5_quarrel : chkM 38 = true := by decide +kernel
set_option maxRecDepth 100000 in
theorem own_X5_quarrel : ((mNm 38).cls = cNm (mOwn 38) ∧ plainName (mNm 38).cls = true) ∧ mMax 38 = 1 := by decide +kernel
theorem st_X5_quarrel_0 {D : Nat} {Q : APost} {ls : AL} {st : List AV} {m : AM} (h : exP (aCC D) D false (AW D 38 Q) Q bX5_quarrel_0 ls st m) : AW D 38 Q 0 ls st m := AW_step chk_X5_quarrel h
set_option maxRecDepth 100000 in
theorem chk_X5_sure : chkM 39 = true := by decide +kernel
set_option maxRecDepth 100000 in
theorem own_X5_sure : ((mNm 39).cls = cNm (mOwn 39) ∧ plainName (mNm 39).cls = true) ∧ mMax 39 = 6 := by decide +kernel
theorem st_X5_sure_0 {D : Nat} {Q : APost} {ls : AL} {st : List AV} {m : AM} (h : exP (aCC D) D false (AW D 39 Q) Q bX5_sure_0 ls st m) : AW D 39 Q 0 ls st m := AW_step chk_X5_sure h
theorem st_X5_sure_11 {D : Nat} {Q : APost} {ls : AL} {st : List AV} {m : AM} (h : exP (aCC D) D false (AW D 39 Q) Q bX5_sure_11 ls st m) : AW D 39 Q 11 ls st m := AW_step chk_X5_sure h
theorem st_X5_sure_15 {D : Nat} {Q : APost} {ls : AL} {st : List AV} {m : AM} (h : exP (aCC D) D false (AW D 39 Q) Q bX5_sure_15 ls st m) : AW D 39 Q 15 ls st m := AW_step chk_X5_sure h
theorem st_X5_sure_20 {D : Nat} {Q : APost} {ls : AL} {st : List AV} {m : AM} (h : exP (aCC D) D false (AW D 39 Q) Q bX5_sure_20 ls st m) : AW D 39 Q 20 ls st m := AW_step chk_X5_sure h
theorem st_X5_sure_22 {D : Nat} {Q : APost} {ls : AL} {st : List AV} {m : AM} (h : exP (aCC D) D false (AW D 39 Q) Q bX5_sure_22 ls st m) : AW D 39 Q 22 ls st m := AW_step chk_X5_sure h
theorem st_X5_sure_36 {D : Nat} {Q : APost} {ls : AL} {st : List AV} {m : AM} (h : exP (aCC D) D false (AW D 39 Q) Q bX5_sure_36 ls st m) : AW D 39 Q 36 ls st m := AW_step chk_X5_sure h
theorem st_X5_sure_43 {D : Nat} {Q : APost} {ls : AL} {st : List AV} {m : AM} (h : exP (aCC D) D false (AW D 39 Q) Q bX5_sure_43 ls st m) : AW D 39 Q 43 ls st m := AW_step chk_X5_sure h
theorem st_X5_sure_52 {D : Nat} {Q : APost} {ls : AL} {st : List AV} {m : AM} (h : exP (aCC D) D false (AW D 39 Q) Q bX5_sure_52 ls st m) : AW D 39 Q 52 ls st m := AW_step chk_X5_sure h
theorem st_X5_sure_69 {D : Nat} {Q : APost} {ls : AL} {st : List AV} {m : AM} (h : exP (aCC D) D false (AW D 39 Q) Q bX5_sure_69 ls st m) : AW D 39 Q 69 ls st m := AW_step chk_X5_sure h
theorem st_X5_sure_101 {D : Nat} {Q : APost} {ls : AL} {st : List AV} {m : AM} (h : exP (aCC D) D false (AW D 39 Q) Q bX5_sure_101 ls st m) : AW D 39 Q 101 ls st m := AW_step chk_X5_sure h
theorem st_X5_sure_107 {D : Nat} {Q : APost} {ls : AL} {st : List AV} {m : AM} (h : exP (aCC D) D false (AW D 39 Q) Q bX5_sure_107 ls st m) : AW D 39 Q 107 ls st m := AW_step chk_X5_sure h
theorem st_X5_sure_113 {D : Nat} {Q : APost} {ls : AL} {st : List AV} {m : AM} (h : exP (aCC D) D false (AW D 39 Q) Q bX5_sure_113 ls st m) : AW D 39 Q 113 ls st m := AW_step chk_X5_sure h
theorem st_X5_sure_115 {D : Nat} {Q : APost} {ls : AL} {st : List AV} {m : AM} (h : exP (aCC D) D false (AW D 39 Q) Q bX5_sure_115 ls st m) : AW D 39 Q 115 ls st m := AW_step chk_X5_sure h
theorem st_X5_sure_119 {D : Nat} {Q : APost} {ls : AL} {st : List AV} {m : AM} (h : exP (aCC D) D false (AW D 39 Q) Q bX5_sure_119 ls st m) : AW D 39 Q 119 ls st m := AW_step chk_X5_sure h
theorem st_X5_sure_123 {D : Nat} {Q : APost} {ls : AL} {st : List AV} {m : AM} (h : exP (aCC D) D false (AW D 39 Q) Q bX5_sure_123 ls st m) : AW D 39 Q 123 ls st m := AW_step chk_X5_sure h
theorem st_X5_sure_125 {D : Nat} {Q : APost} {ls : AL} {st : List AV} {m : AM} (h : exP (aCC D) D false (AW D 39 Q) Q bX5_sure_125 ls st m) : AW D 39 Q 125 ls st m := AW_step chk_X5_sure h
set_option maxRecDepth 100000 in
theorem chk_X5_feed : chkM 40 = true := by decide +kernel
set_option maxRecDepth 100000 in
theorem own_X5_feed : ((mNm 40).cls = cNm (mOwn 40) ∧ plainName (mNm 40).cls = true) ∧ mMax 40 = 6 := by decide +kernel
theorem st_X5_feed_0 {D : Nat} {Q : APost} {ls : AL} {st : List AV} {m : AM} (h : exP (aCC D) D false (AW D 40 Q) Q bX5_feed_0 ls st m) : AW D 40 Q 0 ls st m := AW_step chk_X5_feed h
theorem st_X5_feed_15 {D : Nat} {Q : APost} {ls : AL} {st : List AV} {m : AM} (h : exP (aCC D) D false (AW D 40 Q) Q bX5_feed_15 ls st m) : AW D 40 Q 15 ls st m := AW_step chk_X5_feed h
theorem st_X5_feed_17 {D : Nat} {Q : APost} {ls : AL} {st : List AV} {m : AM} (h : exP (aCC D) D false (AW D 40 Q) Q bX5_feed_17 ls st m) : AW D 40 Q 17 ls st m := AW_step chk_X5_feed h
set_option maxRecDepth 100000 in
theorem chk_X5_words : chkM 41 = true := by decide +kernel
set_option maxRecDepth 100000 in
theorem own_X5_words : ((mNm 41).cls = cNm (mOwn 41) ∧ plainName (mNm 41).cls = true) ∧ mMax 41 = 3 := by decide +kernel
theorem st_X5_words_0 {D : Nat} {Q : APost} {ls : AL} {st : List AV} {m : AM} (h : exP (aCC D) D true (AW D 41 Q) Q bX5_words_0 ls st m) : AW D 41 Q 0 ls st m := AW_step chk_X5_words h
theorem st_X5_words_11 {D : Nat} {Q : APost} {ls : AL} {st : List AV} {m : AM} (h : exP (aCC D) D true (AW D 41 Q) Q bX5_words_11 ls st m) : AW D 41 Q 11 ls st m := AW_step chk_X5_words h
theorem st_X5_words_23 {D : Nat} {Q : APost} {ls : AL} {st : List AV} {m : AM} (h : exP (aCC D) D true (AW D 41 Q) Q bX5_words_23 ls st m) : AW D 41 Q 23 ls st m := AW_step chk_X5_words h
theorem st_X5_words_27 {D : Nat} {Q : APost} {ls : AL} {st : List AV} {m : AM} (h : exP (aCC D) D true (AW D 41 Q) Q bX5_words_27 ls st m) : AW D 41 Q 27 ls st m := AW_step chk_X5_words h
theorem st_X5_words_28 {D : Nat} {Q : APost} {ls : AL} {st : List AV} {m : AM} (h : exP (aCC D) D true (AW D 41 Q) Q bX5_words_28 ls st m) : AW D 41 Q 28 ls st m := AW_step chk_X5_words h
set_option maxRecDepth 100000 in
theorem chk_X5_model : chkM 42 = true := by decide +kernel
set_option maxRecDepth 100000 in
theorem own_X5_model : ((mNm 42).cls = cNm (mOwn 42) ∧ plainName (mNm 42).cls = true) ∧ mMax 42 = 3 := by decide +kernel
theorem st_X5_model_0 {D : Nat} {Q : APost} {ls : AL} {st : List AV} {m : AM} (h : exP (aCC D) D false (AW D 42 Q) Q bX5_model_0 ls st m) : AW D 42 Q 0 ls st m := AW_step chk_X5_model h
theorem st_X5_model_11 {D : Nat} {Q : APost} {ls : AL} {st : List AV} {m : AM} (h : exP (aCC D) D false (AW D 42 Q) Q bX5_model_11 ls st m) : AW D 42 Q 11 ls st m := AW_step chk_X5_model h
theorem st_X5_model_15 {D : Nat} {Q : APost} {ls : AL} {st : List AV} {m : AM} (h : exP (aCC D) D false (AW D 42 Q) Q bX5_model_15 ls st m) : AW D 42 Q 15 ls st m := AW_step chk_X5_model h
theorem st_X5_model_20 {D : Nat} {Q : APost} {ls : AL} {st : List AV} {m : AM} (h : exP (aCC D) D false (AW D 42 Q) Q bX5_model_20 ls st m) : AW D 42 Q 20 ls st m := AW_step chk_X5_model h
theorem st_X5_model_22 {D : Nat} {Q : APost} {ls : AL} {st : List AV} {m : AM} (h : exP (aCC D) D false (AW D 42 Q) Q bX5_model_22 ls st m) : AW D 42 Q 22 ls st m := AW_step chk_X5_model h
theorem st_X5_model_41 {D : Nat} {Q : APost} {ls : AL} {st : List AV} {m : AM} (h : exP (aCC D) D false (AW D 42 Q) Q bX5_model_41 ls st m) : AW D 42 Q 41 ls st m := AW_step chk_X5_model h
theorem st_X5_model_43 {D : Nat} {Q : APost} {ls : AL} {st : List AV} {m : AM} (h : exP (aCC D) D false (AW D 42 Q) Q bX5_model_43 ls st m) : AW D 42 Q 43 ls st m := AW_step chk_X5_model h
theorem st_X5_model_72 {D : Nat} {Q : APost} {ls : AL} {st : List AV} {m : AM} (h : exP (aCC D) D false (AW D 42 Q) Q bX5_model_72 ls st m) : AW D 42 Q 72 ls st m := AW_step chk_X5_model h
theorem st_X5_model_80 {D : Nat} {Q : APost} {ls : AL} {st : List AV} {m : AM} (h : exP (aCC D) D false (AW D 42 Q) Q bX5_model_80 ls st m) : AW D 42 Q 80 ls st m := AW_step chk_X5_model h
theorem st_X5_model_88 {D : Nat} {Q : APost} {ls : AL} {st : List AV} {m : AM} (h : exP (aCC D) D false (AW D 42 Q) Q bX5_model_88 ls st m) : AW D 42 Q 88 ls st m := AW_step chk_X5_model h
theorem st_X5_model_96 {D : Nat} {Q : APost} {ls : AL} {st : List AV} {m : AM} (h : exP (aCC D) D false (AW D 42 Q) Q bX5_model_96 ls st m) : AW D 42 Q 96 ls st m := AW_step chk_X5_model h
set_option maxRecDepth 100000 in
theorem chk_X5_claim : chkM 43 = true := by decide +kernel
set_option maxRecDepth 100000 in
theorem own_X5_claim : ((mNm 43).cls = cNm (mOwn 43) ∧ plainName (mNm 43).cls = true) ∧ mMax 43 = 4 := by decide +kernel
theorem st_X5_claim_0 {D : Nat} {Q : APost} {ls : AL} {st : List AV} {m : AM} (h : exP (aCC D) D true (AW D 43 Q) Q bX5_claim_0 ls st m) : AW D 43 Q 0 ls st m := AW_step chk_X5_claim h
theorem st_X5_claim_11 {D : Nat} {Q : APost} {ls : AL} {st : List AV} {m : AM} (h : exP (aCC D) D true (AW D 43 Q) Q bX5_claim_11 ls st m) : AW D 43 Q 11 ls st m := AW_step chk_X5_claim h
theorem st_X5_claim_15 {D : Nat} {Q : APost} {ls : AL} {st : List AV} {m : AM} (h : exP (aCC D) D true (AW D 43 Q) Q bX5_claim_15 ls st m) : AW D 43 Q 15 ls st m := AW_step chk_X5_claim h
theorem st_X5_claim_20 {D : Nat} {Q : APost} {ls : AL} {st : List AV} {m : AM} (h : exP (aCC D) D true (AW D 43 Q) Q bX5_claim_20 ls st m) : AW D 43 Q 20 ls st m := AW_step chk_X5_claim h
theorem st_X5_claim_24 {D : Nat} {Q : APost} {ls : AL} {st : List AV} {m : AM} (h : exP (aCC D) D true (AW D 43 Q) Q bX5_claim_24 ls st m) : AW D 43 Q 24 ls st m := AW_step chk_X5_claim h
theorem st_X5_claim_31 {D : Nat} {Q : APost} {ls : AL} {st : List AV} {m : AM} (h : exP (aCC D) D true (AW D 43 Q) Q bX5_claim_31 ls st m) : AW D 43 Q 31 ls st m := AW_step chk_X5_claim h
theorem st_X5_claim_33 {D : Nat} {Q : APost} {ls : AL} {st : List AV} {m : AM} (h : exP (aCC D) D true (AW D 43 Q) Q bX5_claim_33 ls st m) : AW D 43 Q 33 ls st m := AW_step chk_X5_claim h
set_option maxRecDepth 100000 in
theorem chk_X5_clash : chkM 44 = true := by decide +kernel
set_option maxRecDepth 100000 in
theorem own_X5_clash : ((mNm 44).cls = cNm (mOwn 44) ∧ plainName (mNm 44).cls = true) ∧ mMax 44 = 7 := by decide +kernel
theorem st_X5_clash_0 {D : Nat} {Q : APost} {ls : AL} {st : List AV} {m : AM} (h : exP (aCC D) D false (AW D 44 Q) Q bX5_clash_0 ls st m) : AW D 44 Q 0 ls st m := AW_step chk_X5_clash h
theorem st_X5_clash_4 {D : Nat} {Q : APost} {ls : AL} {st : List AV} {m : AM} (h : exP (aCC D) D false (AW D 44 Q) Q bX5_clash_4 ls st m) : AW D 44 Q 4 ls st m := AW_step chk_X5_clash h
theorem st_X5_clash_8 {D : Nat} {Q : APost} {ls : AL} {st : List AV} {m : AM} (h : exP (aCC D) D false (AW D 44 Q) Q bX5_clash_8 ls st m) : AW D 44 Q 8 ls st m := AW_step chk_X5_clash h
theorem st_X5_clash_13 {D : Nat} {Q : APost} {ls : AL} {st : List AV} {m : AM} (h : exP (aCC D) D false (AW D 44 Q) Q bX5_clash_13 ls st m) : AW D 44 Q 13 ls st m := AW_step chk_X5_clash h
theorem st_X5_clash_15 {D : Nat} {Q : APost} {ls : AL} {st : List AV} {m : AM} (h : exP (aCC D) D false (AW D 44 Q) Q bX5_clash_15 ls st m) : AW D 44 Q 15 ls st m := AW_step chk_X5_clash h
theorem st_X5_clash_24 {D : Nat} {Q : APost} {ls : AL} {st : List AV} {m : AM} (h : exP (aCC D) D false (AW D 44 Q) Q bX5_clash_24 ls st m) : AW D 44 Q 24 ls st m := AW_step chk_X5_clash h
theorem st_X5_clash_31 {D : Nat} {Q : APost} {ls : AL} {st : List AV} {m : AM} (h : exP (aCC D) D false (AW D 44 Q) Q bX5_clash_31 ls st m) : AW D 44 Q 31 ls st m := AW_step chk_X5_clash h
theorem st_X5_clash_37 {D : Nat} {Q : APost} {ls : AL} {st : List AV} {m : AM} (h : exP (aCC D) D false (AW D 44 Q) Q bX5_clash_37 ls st m) : AW D 44 Q 37 ls st m := AW_step chk_X5_clash h
theorem st_X5_clash_44 {D : Nat} {Q : APost} {ls : AL} {st : List AV} {m : AM} (h : exP (aCC D) D false (AW D 44 Q) Q bX5_clash_44 ls st m) : AW D 44 Q 44 ls st m := AW_step chk_X5_clash h
theorem st_X5_clash_59 {D : Nat} {Q : APost} {ls : AL} {st : List AV} {m : AM} (h : exP (aCC D) D false (AW D 44 Q) Q bX5_clash_59 ls st m) : AW D 44 Q 59 ls st m := AW_step chk_X5_clash h
theorem st_X5_clash_63 {D : Nat} {Q : APost} {ls : AL} {st : List AV} {m : AM} (h : exP (aCC D) D false (AW D 44 Q) Q bX5_clash_63 ls st m) : AW D 44 Q 63 ls st m := AW_step chk_X5_clash h
theorem st_X5_clash_67 {D : Nat} {Q : APost} {ls : AL} {st : List AV} {m : AM} (h : exP (aCC D) D false (AW D 44 Q) Q bX5_clash_67 ls st m) : AW D 44 Q 67 ls st m := AW_step chk_X5_clash h
theorem st_X5_clash_72 {D : Nat} {Q : APost} {ls : AL} {st : List AV} {m : AM} (h : exP (aCC D) D false (AW D 44 Q) Q bX5_clash_72 ls st m) : AW D 44 Q 72 ls st m := AW_step chk_X5_clash h
theorem st_X5_clash_77 {D : Nat} {Q : APost} {ls : AL} {st : List AV} {m : AM} (h : exP (aCC D) D false (AW D 44 Q) Q bX5_clash_77 ls st m) : AW D 44 Q 77 ls st m := AW_step chk_X5_clash h
theorem st_X5_clash_82 {D : Nat} {Q : APost} {ls : AL} {st : List AV} {m : AM} (h : exP (aCC D) D false (AW D 44 Q) Q bX5_clash_82 ls st m) : AW D 44 Q 82 ls st m := AW_step chk_X5_clash h
theorem st_X5_clash_84 {D : Nat} {Q : APost} {ls : AL} {st : List AV} {m : AM} (h : exP (aCC D) D false (AW D 44 Q) Q bX5_clash_84 ls st m) : AW D 44 Q 84 ls st m := AW_step chk_X5_clash h
theorem st_X5_clash_85 {D : Nat} {Q : APost} {ls : AL} {st : List AV} {m : AM} (h : exP (aCC D) D false (AW D 44 Q) Q bX5_clash_85 ls st m) : AW D 44 Q 85 ls st m := AW_step chk_X5_clash h
theorem st_X5_clash_90 {D : Nat} {Q : APost} {ls : AL} {st : List AV} {m : AM} (h : exP (aCC D) D false (AW D 44 Q) Q bX5_clash_90 ls st m) : AW D 44 Q 90 ls st m := AW_step chk_X5_clash h
theorem st_X5_clash_93 {D : Nat} {Q : APost} {ls : AL} {st : List AV} {m : AM} (h : exP (aCC D) D false (AW D 44 Q) Q bX5_clash_93 ls st m) : AW D 44 Q 93 ls st m := AW_step chk_X5_clash h
theorem st_X5_clash_99 {D : Nat} {Q : APost} {ls : AL} {st : List AV} {m : AM} (h : exP (aCC D) D false (AW D 44 Q) Q bX5_clash_99 ls st m) : AW D 44 Q 99 ls st m := AW_step chk_X5_clash h
theorem st_X5_clash_105 {D : Nat} {Q : APost} {ls : AL} {st : List AV} {m : AM} (h : exP (aCC D) D false (AW D 44 Q) Q bX5_clash_105 ls st m) : AW D 44 Q 105 ls st m := AW_step chk_X5_clash h
set_option maxRecDepth 100000 in
theorem chk_X5_court : chkM 45 = true := by decide +kernel
set_option maxRecDepth 100000 in
theorem own_X5_court : ((mNm 45).cls = cNm (mOwn 45) ∧ plainName (mNm 45).cls = true) ∧ mMax 45 = 3 := by decide +kernel
theorem st_X5_court_0 {D : Nat} {Q : APost} {ls : AL} {st : List AV} {m : AM} (h : exP (aCC D) D true (AW D 45 Q) Q bX5_court_0 ls st m) : AW D 45 Q 0 ls st m := AW_step chk_X5_court h
theorem st_X5_court_11 {D : Nat} {Q : APost} {ls : AL} {st : List AV} {m : AM} (h : exP (aCC D) D true (AW D 45 Q) Q bX5_court_11 ls st m) : AW D 45 Q 11 ls st m := AW_step chk_X5_court h
theorem st_X5_court_15 {D : Nat} {Q : APost} {ls : AL} {st : List AV} {m : AM} (h : exP (aCC D) D true (AW D 45 Q) Q bX5_court_15 ls st m) : AW D 45 Q 15 ls st m := AW_step chk_X5_court h
theorem st_X5_court_20 {D : Nat} {Q : APost} {ls : AL} {st : List AV} {m : AM} (h : exP (aCC D) D true (AW D 45 Q) Q bX5_court_20 ls st m) : AW D 45 Q 20 ls st m := AW_step chk_X5_court h
theorem st_X5_court_22 {D : Nat} {Q : APost} {ls : AL} {st : List AV} {m : AM} (h : exP (aCC D) D true (AW D 45 Q) Q bX5_court_22 ls st m) : AW D 45 Q 22 ls st m := AW_step chk_X5_court h
set_option maxRecDepth 100000 in
theorem chk_X5_otherwise : chkM 46 = true := by decide +kernel
set_option maxRecDepth 100000 in
theorem own_X5_otherwise : ((mNm 46).cls = cNm (mOwn 46) ∧ plainName (mNm 46).cls = true) ∧ mMax 46 = 4 := by decide +kernel
theorem st_X5_otherwise_0 {D : Nat} {Q : APost} {ls : AL} {st : List AV} {m : AM} (h : exP (aCC D) D false (AW D 46 Q) Q bX5_otherwise_0 ls st m) : AW D 46 Q 0 ls st m := AW_step chk_X5_otherwise h
theorem st_X5_otherwise_4 {D : Nat} {Q : APost} {ls : AL} {st : List AV} {m : AM} (h : exP (aCC D) D false (AW D 46 Q) Q bX5_otherwise_4 ls st m) : AW D 46 Q 4 ls st m := AW_step chk_X5_otherwise h
theorem st_X5_otherwise_6 {D : Nat} {Q : APost} {ls : AL} {st : List AV} {m : AM} (h : exP (aCC D) D false (AW D 46 Q) Q bX5_otherwise_6 ls st m) : AW D 46 Q 6 ls st m := AW_step chk_X5_otherwise h
theorem st_X5_otherwise_14 {D : Nat} {Q : APost} {ls : AL} {st : List AV} {m : AM} (h : exP (aCC D) D false (AW D 46 Q) Q bX5_otherwise_14 ls st m) : AW D 46 Q 14 ls st m := AW_step chk_X5_otherwise h
theorem st_X5_otherwise_20 {D : Nat} {Q : APost} {ls : AL} {st : List AV} {m : AM} (h : exP (aCC D) D false (AW D 46 Q) Q bX5_otherwise_20 ls st m) : AW D 46 Q 20 ls st m := AW_step chk_X5_otherwise h
theorem st_X5_otherwise_28 {D : Nat} {Q : APost} {ls : AL} {st : List AV} {m : AM} (h : exP (aCC D) D false (AW D 46 Q) Q bX5_otherwise_28 ls st m) : AW D 46 Q 28 ls st m := AW_step chk_X5_otherwise h
theorem st_X5_otherwise_32 {D : Nat} {Q : APost} {ls : AL} {st : List AV} {m : AM} (h : exP (aCC D) D false (AW D 46 Q) Q bX5_otherwise_32 ls st m) : AW D 46 Q 32 ls st m := AW_step chk_X5_otherwise h
theorem st_X5_otherwise_34 {D : Nat} {Q : APost} {ls : AL} {st : List AV} {m : AM} (h : exP (aCC D) D false (AW D 46 Q) Q bX5_otherwise_34 ls st m) : AW D 46 Q 34 ls st m := AW_step chk_X5_otherwise h
theorem st_X5_otherwise_37 {D : Nat} {Q : APost} {ls : AL} {st : List AV} {m : AM} (h : exP (aCC D) D false (AW D 46 Q) Q bX5_otherwise_37 ls st m) : AW D 46 Q 37 ls st m := AW_step chk_X5_otherwise h
theorem st_X5_otherwise_43 {D : Nat} {Q : APost} {ls : AL} {st : List AV} {m : AM} (h : exP (aCC D) D false (AW D 46 Q) Q bX5_otherwise_43 ls st m) : AW D 46 Q 43 ls st m := AW_step chk_X5_otherwise h
set_option maxRecDepth 100000 in
theorem chk_X5_look : chkM 47 = true := by decide +kernel
set_option maxRecDepth 100000 in
theorem own_X5_look : ((mNm 47).cls = cNm (mOwn 47) ∧ plainName (mNm 47).cls = true) ∧ mMax 47 = 3 := by decide +kernel
theorem st_X5_look_0 {D : Nat} {Q : APost} {ls : AL} {st : List AV} {m : AM} (h : exP (aCC D) D false (AW D 47 Q) Q bX5_look_0 ls st m) : AW D 47 Q 0 ls st m := AW_step chk_X5_look h
theorem st_X5_look_11 {D : Nat} {Q : APost} {ls : AL} {st : List AV} {m : AM} (h : exP (aCC D) D false (AW D 47 Q) Q bX5_look_11 ls st m) : AW D 47 Q 11 ls st m := AW_step chk_X5_look h
theorem st_X5_look_13 {D : Nat} {Q : APost} {ls : AL} {st : List AV} {m : AM} (h : exP (aCC D) D false (AW D 47 Q) Q bX5_look_13 ls st m) : AW D 47 Q 13 ls st m := AW_step chk_X5_look h
theorem st_X5_look_68 {D : Nat} {Q : APost} {ls : AL} {st : List AV} {m : AM} (h : exP (aCC D) D false (AW D 47 Q) Q bX5_look_68 ls st m) : AW D 47 Q 68 ls st m := AW_step chk_X5_look h
theorem st_X5_look_78 {D : Nat} {Q : APost} {ls : AL} {st : List AV} {m : AM} (h : exP (aCC D) D false (AW D 47 Q) Q bX5_look_78 ls st m) : AW D 47 Q 78 ls st m := AW_step chk_X5_look h
theorem st_X5_look_88 {D : Nat} {Q : APost} {ls : AL} {st : List AV} {m : AM} (h : exP (aCC D) D false (AW D 47 Q) Q bX5_look_88 ls st m) : AW D 47 Q 88 ls st m := AW_step chk_X5_look h
theorem st_X5_look_98 {D : Nat} {Q : APost} {ls : AL} {st : List AV} {m : AM} (h : exP (aCC D) D false (AW D 47 Q) Q bX5_look_98 ls st m) : AW D 47 Q 98 ls st m := AW_step chk_X5_look h
theorem st_X5_look_107 {D : Nat} {Q : APost} {ls : AL} {st : List AV} {m : AM} (h : exP (aCC D) D false (AW D 47 Q) Q bX5_look_107 ls st m) : AW D 47 Q 107 ls st m := AW_step chk_X5_look h
theorem st_X5_look_114 {D : Nat} {Q : APost} {ls : AL} {st : List AV} {m : AM} (h : exP (aCC D) D false (AW D 47 Q) Q bX5_look_114 ls st m) : AW D 47 Q 114 ls st m := AW_step chk_X5_look h
theorem st_X5_look_124 {D : Nat} {Q : APost} {ls : AL} {st : List AV} {m : AM} (h : exP (aCC D) D false (AW D 47 Q) Q bX5_look_124 ls st m) : AW D 47 Q 124 ls st m := AW_step chk_X5_look h
theorem st_X5_look_131 {D : Nat} {Q : APost} {ls : AL} {st : List AV} {m : AM} (h : exP (aCC D) D false (AW D 47 Q) Q bX5_look_131 ls st m) : AW D 47 Q 131 ls st m := AW_step chk_X5_look h
theorem st_X5_look_138 {D : Nat} {Q : APost} {ls : AL} {st : List AV} {m : AM} (h : exP (aCC D) D false (AW D 47 Q) Q bX5_look_138 ls st m) : AW D 47 Q 138 ls st m := AW_step chk_X5_look h
theorem st_X5_look_146 {D : Nat} {Q : APost} {ls : AL} {st : List AV} {m : AM} (h : exP (aCC D) D false (AW D 47 Q) Q bX5_look_146 ls st m) : AW D 47 Q 146 ls st m := AW_step chk_X5_look h
theorem st_X5_look_154 {D : Nat} {Q : APost} {ls : AL} {st : List AV} {m : AM} (h : exP (aCC D) D false (AW D 47 Q) Q bX5_look_154 ls st m) : AW D 47 Q 154 ls st m := AW_step chk_X5_look h
theorem st_X5_look_155 {D : Nat} {Q : APost} {ls : AL} {st : List AV} {m : AM} (h : exP (aCC D) D false (AW D 47 Q) Q bX5_look_155 ls st m) : AW D 47 Q 155 ls st m := AW_step chk_X5_look h
theorem st_X5_look_156 {D : Nat} {Q : APost} {ls : AL} {st : List AV} {m : AM} (h : exP (aCC D) D false (AW D 47 Q) Q bX5_look_156 ls st m) : AW D 47 Q 156 ls st m := AW_step chk_X5_look h
theorem st_X5_look_164 {D : Nat} {Q : APost} {ls : AL} {st : List AV} {m : AM} (h : exP (aCC D) D false (AW D 47 Q) Q bX5_look_164 ls st m) : AW D 47 Q 164 ls st m := AW_step chk_X5_look h
theorem st_X5_look_172 {D : Nat} {Q : APost} {ls : AL} {st : List AV} {m : AM} (h : exP (aCC D) D false (AW D 47 Q) Q bX5_look_172 ls st m) : AW D 47 Q 172 ls st m := AW_step chk_X5_look h
theorem st_X5_look_173 {D : Nat} {Q : APost} {ls : AL} {st : List AV} {m : AM} (h : exP (aCC D) D false (AW D 47 Q) Q bX5_look_173 ls st m) : AW D 47 Q 173 ls st m := AW_step chk_X5_look h
theorem st_X5_look_174 {D : Nat} {Q : APost} {ls : AL} {st : List AV} {m : AM} (h : exP (aCC D) D false (AW D 47 Q) Q bX5_look_174 ls st m) : AW D 47 Q 174 ls st m := AW_step chk_X5_look h
set_option maxRecDepth 100000 in
theorem chk_X5_count : chkM 48 = true := by decide +kernel
set_option maxRecDepth 100000 in
theorem own_X5_count : ((mNm 48).cls = cNm (mOwn 48) ∧ plainName (mNm 48).cls = true) ∧ mMax 48 = 2 := by decide +kernel
theorem st_X5_count_0 {D : Nat} {Q : APost} {ls : AL} {st : List AV} {m : AM} (h : exP (aCC D) D false (AW D 48 Q) Q bX5_count_0 ls st m) : AW D 48 Q 0 ls st m := AW_step chk_X5_count h
theorem st_X5_count_48 {D : Nat} {Q : APost} {ls : AL} {st : List AV} {m : AM} (h : exP (aCC D) D false (AW D 48 Q) Q bX5_count_48 ls st m) : AW D 48 Q 48 ls st m := AW_step chk_X5_count h
theorem st_X5_count_56 {D : Nat} {Q : APost} {ls : AL} {st : List AV} {m : AM} (h : exP (aCC D) D false (AW D 48 Q) Q bX5_count_56 ls st m) : AW D 48 Q 56 ls st m := AW_step chk_X5_count h
theorem st_X5_count_64 {D : Nat} {Q : APost} {ls : AL} {st : List AV} {m : AM} (h : exP (aCC D) D false (AW D 48 Q) Q bX5_count_64 ls st m) : AW D 48 Q 64 ls st m := AW_step chk_X5_count h
theorem st_X5_count_72 {D : Nat} {Q : APost} {ls : AL} {st : List AV} {m : AM} (h : exP (aCC D) D false (AW D 48 Q) Q bX5_count_72 ls st m) : AW D 48 Q 72 ls st m := AW_step chk_X5_count h
theorem st_X5_count_80 {D : Nat} {Q : APost} {ls : AL} {st : List AV} {m : AM} (h : exP (aCC D) D false (AW D 48 Q) Q bX5_count_80 ls st m) : AW D 48 Q 80 ls st m := AW_step chk_X5_count h
theorem st_X5_count_88 {D : Nat} {Q : APost} {ls : AL} {st : List AV} {m : AM} (h : exP (aCC D) D false (AW D 48 Q) Q bX5_count_88 ls st m) : AW D 48 Q 88 ls st m := AW_step chk_X5_count h
theorem st_X5_count_100 {D : Nat} {Q : APost} {ls : AL} {st : List AV} {m : AM} (h : exP (aCC D) D false (AW D 48 Q) Q bX5_count_100 ls st m) : AW D 48 Q 100 ls st m := AW_step chk_X5_count h
theorem st_X5_count_108 {D : Nat} {Q : APost} {ls : AL} {st : List AV} {m : AM} (h : exP (aCC D) D false (AW D 48 Q) Q bX5_count_108 ls st m) : AW D 48 Q 108 ls st m := AW_step chk_X5_count h
theorem st_X5_count_117 {D : Nat} {Q : APost} {ls : AL} {st : List AV} {m : AM} (h : exP (aCC D) D false (AW D 48 Q) Q bX5_count_117 ls st m) : AW D 48 Q 117 ls st m := AW_step chk_X5_count h
set_option maxRecDepth 100000 in
theorem chk_X5_holds : chkM 49 = true := by decide +kernel
set_option maxRecDepth 100000 in
theorem own_X5_holds : ((mNm 49).cls = cNm (mOwn 49) ∧ plainName (mNm 49).cls = true) ∧ mMax 49 = 2 := by decide +kernel
theorem st_X5_holds_0 {D : Nat} {Q : APost} {ls : AL} {st : List AV} {m : AM} (h : exP (aCC D) D true (AW D 49 Q) Q bX5_holds_0 ls st m) : AW D 49 Q 0 ls st m := AW_step chk_X5_holds h
theorem st_X5_holds_8 {D : Nat} {Q : APost} {ls : AL} {st : List AV} {m : AM} (h : exP (aCC D) D true (AW D 49 Q) Q bX5_holds_8 ls st m) : AW D 49 Q 8 ls st m := AW_step chk_X5_holds h
theorem st_X5_holds_12 {D : Nat} {Q : APost} {ls : AL} {st : List AV} {m : AM} (h : exP (aCC D) D true (AW D 49 Q) Q bX5_holds_12 ls st m) : AW D 49 Q 12 ls st m := AW_step chk_X5_holds h
theorem st_X5_holds_13 {D : Nat} {Q : APost} {ls : AL} {st : List AV} {m : AM} (h : exP (aCC D) D true (AW D 49 Q) Q bX5_holds_13 ls st m) : AW D 49 Q 13 ls st m := AW_step chk_X5_holds h
set_option maxRecDepth 100000 in
theorem chk_X5_allDeeds : chkM 50 = true := by decide +kernel
set_option maxRecDepth 100000 in
theorem own_X5_allDeeds : ((mNm 50).cls = cNm (mOwn 50) ∧ plainName (mNm 50).cls = true) ∧ mMax 50 = 1 := by decide +kernel
theorem st_X5_allDeeds_0 {D : Nat} {Q : APost} {ls : AL} {st : List AV} {m : AM} (h : exP (aCC D) D false (AW D 50 Q) Q bX5_allDeeds_0 ls st m) : AW D 50 Q 0 ls st m := AW_step chk_X5_allDeeds h
set_option maxRecDepth 100000 in
theorem chk_X5_areDeeds : chkM 51 = true := by decide +kernel
set_option maxRecDepth 100000 in
theorem own_X5_areDeeds : ((mNm 51).cls = cNm (mOwn 51) ∧ plainName (mNm 51).cls = true) ∧ mMax 51 = 2 := by decide +kernel
theorem st_X5_areDeeds_0 {D : Nat} {Q : APost} {ls : AL} {st : List AV} {m : AM} (h : exP (aCC D) D true (AW D 51 Q) Q bX5_areDeeds_0 ls st m) : AW D 51 Q 0 ls st m := AW_step chk_X5_areDeeds h
theorem st_X5_areDeeds_11 {D : Nat} {Q : APost} {ls : AL} {st : List AV} {m : AM} (h : exP (aCC D) D true (AW D 51 Q) Q bX5_areDeeds_11 ls st m) : AW D 51 Q 11 ls st m := AW_step chk_X5_areDeeds h
theorem st_X5_areDeeds_15 {D : Nat} {Q : APost} {ls : AL} {st : List AV} {m : AM} (h : exP (aCC D) D true (AW D 51 Q) Q bX5_areDeeds_15 ls st m) : AW D 51 Q 15 ls st m := AW_step chk_X5_areDeeds h
theorem st_X5_areDeeds_16 {D : Nat} {Q : APost} {ls : AL} {st : List AV} {m : AM} (h : exP (aCC D) D true (AW D 51 Q) Q bX5_areDeeds_16 ls st m) : AW D 51 Q 16 ls st m := AW_step chk_X5_areDeeds h
set_option maxRecDepth 100000 in
theorem chk_X5_isTrue : chkM 52 = true := by decide +kernel
set_option maxRecDepth 100000 in
theorem own_X5_isTrue : ((mNm 52).cls = cNm (mOwn 52) ∧ plainName (mNm 52).cls = true) ∧ mMax 52 = 2 := by decide +kernel
theorem st_X5_isTrue_0 {D : Nat} {Q : APost} {ls : AL} {st : List AV} {m : AM} (h : exP (aCC D) D true (AW D 52 Q) Q bX5_isTrue_0 ls st m) : AW D 52 Q 0 ls st m := AW_step chk_X5_isTrue h
set_option maxRecDepth 100000 in
theorem chk_X5_forgedOnes : chkM 53 = true := by decide +kernel
set_option maxRecDepth 100000 in
theorem own_X5_forgedOnes : ((mNm 53).cls = cNm (mOwn 53) ∧ plainName (mNm 53).cls = true) ∧ mMax 53 = 1 := by decide +kernel
theorem st_X5_forgedOnes_0 {D : Nat} {Q : APost} {ls : AL} {st : List AV} {m : AM} (h : exP (aCC D) D false (AW D 53 Q) Q bX5_forgedOnes_0 ls st m) : AW D 53 Q 0 ls st m := AW_step chk_X5_forgedOnes h
set_option maxRecDepth 100000 in
theorem chk_X5_canBeMarked : chkM 54 = true := by decide +kernel
set_option maxRecDepth 100000 in
theorem own_X5_canBeMarked : ((mNm 54).cls = cNm (mOwn 54) ∧ plainName (mNm 54).cls = true) ∧ mMax 54 = 3 := by decide +kernel
theorem st_X5_canBeMarked_0 {D : Nat} {Q : APost} {ls : AL} {st : List AV} {m : AM} (h : exP (aCC D) D true (AW D 54 Q) Q bX5_canBeMarked_0 ls st m) : AW D 54 Q 0 ls st m := AW_step chk_X5_canBeMarked h
theorem st_X5_canBeMarked_36 {D : Nat} {Q : APost} {ls : AL} {st : List AV} {m : AM} (h : exP (aCC D) D true (AW D 54 Q) Q bX5_canBeMarked_36 ls st m) : AW D 54 Q 36 ls st m := AW_step chk_X5_canBeMarked h
theorem st_X5_canBeMarked_45 {D : Nat} {Q : APost} {ls : AL} {st : List AV} {m : AM} (h : exP (aCC D) D true (AW D 54 Q) Q bX5_canBeMarked_45 ls st m) : AW D 54 Q 45 ls st m := AW_step chk_X5_canBeMarked h
theorem st_X5_canBeMarked_54 {D : Nat} {Q : APost} {ls : AL} {st : List AV} {m : AM} (h : exP (aCC D) D true (AW D 54 Q) Q bX5_canBeMarked_54 ls st m) : AW D 54 Q 54 ls st m := AW_step chk_X5_canBeMarked h
theorem st_X5_canBeMarked_63 {D : Nat} {Q : APost} {ls : AL} {st : List AV} {m : AM} (h : exP (aCC D) D true (AW D 54 Q) Q bX5_canBeMarked_63 ls st m) : AW D 54 Q 63 ls st m := AW_step chk_X5_canBeMarked h
theorem st_X5_canBeMarked_67 {D : Nat} {Q : APost} {ls : AL} {st : List AV} {m : AM} (h : exP (aCC D) D true (AW D 54 Q) Q bX5_canBeMarked_67 ls st m) : AW D 54 Q 67 ls st m := AW_step chk_X5_canBeMarked h
theorem st_X5_canBeMarked_73 {D : Nat} {Q : APost} {ls : AL} {st : List AV} {m : AM} (h : exP (aCC D) D true (AW D 54 Q) Q bX5_canBeMarked_73 ls st m) : AW D 54 Q 73 ls st m := AW_step chk_X5_canBeMarked h
theorem st_X5_canBeMarked_77 {D : Nat} {Q : APost} {ls : AL} {st : List AV} {m : AM} (h : exP (aCC D) D true (AW D 54 Q) Q bX5_canBeMarked_77 ls st m) : AW D 54 Q 77 ls st m := AW_step chk_X5_canBeMarked h
theorem st_X5_canBeMarked_78 {D : Nat} {Q : APost} {ls : AL} {st : List AV} {m : AM} (h : exP (aCC D) D true (AW D 54 Q) Q bX5_canBeMarked_78 ls st m) : AW D 54 Q 78 ls st m := AW_step chk_X5_canBeMarked h
theorem st_X5_canBeMarked_79 {D : Nat} {Q : APost} {ls : AL} {st : List AV} {m : AM} (h : exP (aCC D) D true (AW D 54 Q) Q bX5_canBeMarked_79 ls st m) : AW D 54 Q 79 ls st m := AW_step chk_X5_canBeMarked h
theorem st_X5_canBeMarked_88 {D : Nat} {Q : APost} {ls : AL} {st : List AV} {m : AM} (h : exP (aCC D) D true (AW D 54 Q) Q bX5_canBeMarked_88 ls st m) : AW D 54 Q 88 ls st m := AW_step chk_X5_canBeMarked h
set_option maxRecDepth 100000 in
theorem chk_X5_ownFirst : chkM 55 = true := by decide +kernel
set_option maxRecDepth 100000 in
theorem own_X5_ownFirst : ((mNm 55).cls = cNm (mOwn 55) ∧ plainName (mNm 55).cls = true) ∧ mMax 55 = 3 := by decide +kernel
theorem st_X5_ownFirst_0 {D : Nat} {Q : APost} {ls : AL} {st : List AV} {m : AM} (h : exP (aCC D) D false (AW D 55 Q) Q bX5_ownFirst_0 ls st m) : AW D 55 Q 0 ls st m := AW_step chk_X5_ownFirst h
theorem st_X5_ownFirst_11 {D : Nat} {Q : APost} {ls : AL} {st : List AV} {m : AM} (h : exP (aCC D) D false (AW D 55 Q) Q bX5_ownFirst_11 ls st m) : AW D 55 Q 11 ls st m := AW_step chk_X5_ownFirst h
theorem st_X5_ownFirst_23 {D : Nat} {Q : APost} {ls : AL} {st : List AV} {m : AM} (h : exP (aCC D) D false (AW D 55 Q) Q bX5_ownFirst_23 ls st m) : AW D 55 Q 23 ls st m := AW_step chk_X5_ownFirst h
theorem st_X5_ownFirst_24 {D : Nat} {Q : APost} {ls : AL} {st : List AV} {m : AM} (h : exP (aCC D) D false (AW D 55 Q) Q bX5_ownFirst_24 ls st m) : AW D 55 Q 24 ls st m := AW_step chk_X5_ownFirst h
set_option maxRecDepth 100000 in
theorem chk_X5_ownLast : chkM 56 = true := by decide +kernel
set_option maxRecDepth 100000 in
theorem own_X5_ownLast : ((mNm 56).cls = cNm (mOwn 56) ∧ plainName (mNm 56).cls = true) ∧ mMax 56 = 3 := by decide +kernel
theorem st_X5_ownLast_0 {D : Nat} {Q : APost} {ls : AL} {st : List AV} {m : AM} (h : exP (aCC D) D false (AW D 56 Q) Q bX5_ownLast_0 ls st m) : AW D 56 Q 0 ls st m := AW_step chk_X5_ownLast h
theorem st_X5_ownLast_11 {D : Nat} {Q : APost} {ls : AL} {st : List AV} {m : AM} (h : exP (aCC D) D false (AW D 56 Q) Q bX5_ownLast_11 ls st m) : AW D 56 Q 11 ls st m := AW_step chk_X5_ownLast h
theorem st_X5_ownLast_23 {D : Nat} {Q : APost} {ls : AL} {st : List AV} {m : AM} (h : exP (aCC D) D false (AW D 56 Q) Q bX5_ownLast_23 ls st m) : AW D 56 Q 23 ls st m := AW_step chk_X5_ownLast h
theorem st_X5_ownLast_24 {D : Nat} {Q : APost} {ls : AL} {st : List AV} {m : AM} (h : exP (aCC D) D false (AW D 56 Q) Q bX5_ownLast_24 ls st m) : AW D 56 Q 24 ls st m := AW_step chk_X5_ownLast h
set_option maxRecDepth 100000 in
theorem chk_X5_hasOwnYear : chkM 57 = true := by decide +kernel
set_option maxRecDepth 100000 in
theorem own_X5_hasOwnYear : ((mNm 57).cls = cNm (mOwn 57) ∧ plainName (mNm 57).cls = true) ∧ mMax 57 = 2 := by decide +kernel
theorem st_X5_hasOwnYear_0 {D : Nat} {Q : APost} {ls : AL} {st : List AV} {m : AM} (h : exP (aCC D) D true (AW D 57 Q) Q bX5_hasOwnYear_0 ls st m) : AW D 57 Q 0 ls st m := AW_step chk_X5_hasOwnYear h
theorem st_X5_hasOwnYear_13 {D : Nat} {Q : APost} {ls : AL} {st : List AV} {m : AM} (h : exP (aCC D) D true (AW D 57 Q) Q bX5_hasOwnYear_13 ls st m) : AW D 57 Q 13 ls st m := AW_step chk_X5_hasOwnYear h
theorem st_X5_hasOwnYear_17 {D : Nat} {Q : APost} {ls : AL} {st : List AV} {m : AM} (h : exP (aCC D) D true (AW D 57 Q) Q bX5_hasOwnYear_17 ls st m) : AW D 57 Q 17 ls st m := AW_step chk_X5_hasOwnYear h
theorem st_X5_hasOwnYear_18 {D : Nat} {Q : APost} {ls : AL} {st : List AV} {m : AM} (h : exP (aCC D) D true (AW D 57 Q) Q bX5_hasOwnYear_18 ls st m) : AW D 57 Q 18 ls st m := AW_step chk_X5_hasOwnYear h
set_option maxRecDepth 100000 in
theorem chk_X5_settle : chkM 58 = true := by decide +kernel
set_option maxRecDepth 100000 in
theorem own_X5_settle : ((mNm 58).cls = cNm (mOwn 58) ∧ plainName (mNm 58).cls = true) ∧ mMax 58 = 2 := by decide +kernel
theorem st_X5_settle_0 {D : Nat} {Q : APost} {ls : AL} {st : List AV} {m : AM} (h : exP (aCC D) D false (AW D 58 Q) Q bX5_settle_0 ls st m) : AW D 58 Q 0 ls st m := AW_step chk_X5_settle h
theorem st_X5_settle_7 {D : Nat} {Q : APost} {ls : AL} {st : List AV} {m : AM} (h : exP (aCC D) D false (AW D 58 Q) Q bX5_settle_7 ls st m) : AW D 58 Q 7 ls st m := AW_step chk_X5_settle h
theorem st_X5_settle_8 {D : Nat} {Q : APost} {ls : AL} {st : List AV} {m : AM} (h : exP (aCC D) D false (AW D 58 Q) Q bX5_settle_8 ls st m) : AW D 58 Q 8 ls st m := AW_step chk_X5_settle h
theorem st_X5_settle_10 {D : Nat} {Q : APost} {ls : AL} {st : List AV} {m : AM} (h : exP (aCC D) D false (AW D 58 Q) Q bX5_settle_10 ls st m) : AW D 58 Q 10 ls st m := AW_step chk_X5_settle h
theorem st_X5_settle_16 {D : Nat} {Q : APost} {ls : AL} {st : List AV} {m : AM} (h : exP (aCC D) D false (AW D 58 Q) Q bX5_settle_16 ls st m) : AW D 58 Q 16 ls st m := AW_step chk_X5_settle h
theorem st_X5_settle_85 {D : Nat} {Q : APost} {ls : AL} {st : List AV} {m : AM} (h : exP (aCC D) D false (AW D 58 Q) Q bX5_settle_85 ls st m) : AW D 58 Q 85 ls st m := AW_step chk_X5_settle h
set_option maxRecDepth 100000 in
theorem chk_X5_disputed : chkM 59 = true := by decide +kernel
set_option maxRecDepth 100000 in
theorem own_X5_disputed : ((mNm 59).cls = cNm (mOwn 59) ∧ plainName (mNm 59).cls = true) ∧ mMax 59 = 3 := by decide +kernel
theorem st_X5_disputed_0 {D : Nat} {Q : APost} {ls : AL} {st : List AV} {m : AM} (h : exP (aCC D) D false (AW D 59 Q) Q bX5_disputed_0 ls st m) : AW D 59 Q 0 ls st m := AW_step chk_X5_disputed h
theorem st_X5_disputed_8 {D : Nat} {Q : APost} {ls : AL} {st : List AV} {m : AM} (h : exP (aCC D) D false (AW D 59 Q) Q bX5_disputed_8 ls st m) : AW D 59 Q 8 ls st m := AW_step chk_X5_disputed h
theorem st_X5_disputed_16 {D : Nat} {Q : APost} {ls : AL} {st : List AV} {m : AM} (h : exP (aCC D) D false (AW D 59 Q) Q bX5_disputed_16 ls st m) : AW D 59 Q 16 ls st m := AW_step chk_X5_disputed h
theorem st_X5_disputed_31 {D : Nat} {Q : APost} {ls : AL} {st : List AV} {m : AM} (h : exP (aCC D) D false (AW D 59 Q) Q bX5_disputed_31 ls st m) : AW D 59 Q 31 ls st m := AW_step chk_X5_disputed h
theorem st_X5_disputed_33 {D : Nat} {Q : APost} {ls : AL} {st : List AV} {m : AM} (h : exP (aCC D) D false (AW D 59 Q) Q bX5_disputed_33 ls st m) : AW D 59 Q 33 ls st m := AW_step chk_X5_disputed h
set_option maxRecDepth 100000 in
theorem chk_X5_clashes : chkM 60 = true := by decide +kernel
set_option maxRecDepth 100000 in
theorem own_X5_clashes : ((mNm 60).cls = cNm (mOwn 60) ∧ plainName (mNm 60).cls = true) ∧ mMax 60 = 4 := by decide +kernel
theorem st_X5_clashes_0 {D : Nat} {Q : APost} {ls : AL} {st : List AV} {m : AM} (h : exP (aCC D) D false (AW D 60 Q) Q bX5_clashes_0 ls st m) : AW D 60 Q 0 ls st m := AW_step chk_X5_clashes h
theorem st_X5_clashes_4 {D : Nat} {Q : APost} {ls : AL} {st : List AV} {m : AM} (h : exP (aCC D) D false (AW D 60 Q) Q bX5_clashes_4 ls st m) : AW D 60 Q 4 ls st m := AW_step chk_X5_clashes h
theorem st_X5_clashes_10 {D : Nat} {Q : APost} {ls : AL} {st : List AV} {m : AM} (h : exP (aCC D) D false (AW D 60 Q) Q bX5_clashes_10 ls st m) : AW D 60 Q 10 ls st m := AW_step chk_X5_clashes h
theorem st_X5_clashes_14 {D : Nat} {Q : APost} {ls : AL} {st : List AV} {m : AM} (h : exP (aCC D) D false (AW D 60 Q) Q bX5_clashes_14 ls st m) : AW D 60 Q 14 ls st m := AW_step chk_X5_clashes h
theorem st_X5_clashes_20 {D : Nat} {Q : APost} {ls : AL} {st : List AV} {m : AM} (h : exP (aCC D) D false (AW D 60 Q) Q bX5_clashes_20 ls st m) : AW D 60 Q 20 ls st m := AW_step chk_X5_clashes h
theorem st_X5_clashes_29 {D : Nat} {Q : APost} {ls : AL} {st : List AV} {m : AM} (h : exP (aCC D) D false (AW D 60 Q) Q bX5_clashes_29 ls st m) : AW D 60 Q 29 ls st m := AW_step chk_X5_clashes h
theorem st_X5_clashes_32 {D : Nat} {Q : APost} {ls : AL} {st : List AV} {m : AM} (h : exP (aCC D) D false (AW D 60 Q) Q bX5_clashes_32 ls st m) : AW D 60 Q 32 ls st m := AW_step chk_X5_clashes h
theorem st_X5_clashes_38 {D : Nat} {Q : APost} {ls : AL} {st : List AV} {m : AM} (h : exP (aCC D) D false (AW D 60 Q) Q bX5_clashes_38 ls st m) : AW D 60 Q 38 ls st m := AW_step chk_X5_clashes h
theorem st_X5_clashes_44 {D : Nat} {Q : APost} {ls : AL} {st : List AV} {m : AM} (h : exP (aCC D) D false (AW D 60 Q) Q bX5_clashes_44 ls st m) : AW D 60 Q 44 ls st m := AW_step chk_X5_clashes h
set_option maxRecDepth 100000 in
theorem chk_X5_isMisjudged : chkM 61 = true := by decide +kernel
set_option maxRecDepth 100000 in
theorem own_X5_isMisjudged : ((mNm 61).cls = cNm (mOwn 61) ∧ plainName (mNm 61).cls = true) ∧ mMax 61 = 2 := by decide +kernel
theorem st_X5_isMisjudged_0 {D : Nat} {Q : APost} {ls : AL} {st : List AV} {m : AM} (h : exP (aCC D) D true (AW D 61 Q) Q bX5_isMisjudged_0 ls st m) : AW D 61 Q 0 ls st m := AW_step chk_X5_isMisjudged h
theorem st_X5_isMisjudged_14 {D : Nat} {Q : APost} {ls : AL} {st : List AV} {m : AM} (h : exP (aCC D) D true (AW D 61 Q) Q bX5_isMisjudged_14 ls st m) : AW D 61 Q 14 ls st m := AW_step chk_X5_isMisjudged h
theorem st_X5_isMisjudged_18 {D : Nat} {Q : APost} {ls : AL} {st : List AV} {m : AM} (h : exP (aCC D) D true (AW D 61 Q) Q bX5_isMisjudged_18 ls st m) : AW D 61 Q 18 ls st m := AW_step chk_X5_isMisjudged h
theorem st_X5_isMisjudged_19 {D : Nat} {Q : APost} {ls : AL} {st : List AV} {m : AM} (h : exP (aCC D) D true (AW D 61 Q) Q bX5_isMisjudged_19 ls st m) : AW D 61 Q 19 ls st m := AW_step chk_X5_isMisjudged h
theorem st_X5_isMisjudged_22 {D : Nat} {Q : APost} {ls : AL} {st : List AV} {m : AM} (h : exP (aCC D) D true (AW D 61 Q) Q bX5_isMisjudged_22 ls st m) : AW D 61 Q 22 ls st m := AW_step chk_X5_isMisjudged h
theorem st_X5_isMisjudged_26 {D : Nat} {Q : APost} {ls : AL} {st : List AV} {m : AM} (h : exP (aCC D) D true (AW D 61 Q) Q bX5_isMisjudged_26 ls st m) : AW D 61 Q 26 ls st m := AW_step chk_X5_isMisjudged h
theorem st_X5_isMisjudged_27 {D : Nat} {Q : APost} {ls : AL} {st : List AV} {m : AM} (h : exP (aCC D) D true (AW D 61 Q) Q bX5_isMisjudged_27 ls st m) : AW D 61 Q 27 ls st m := AW_step chk_X5_isMisjudged h
set_option maxRecDepth 100000 in
theorem chk_X6_lies : chkM 62 = true := by decide +kernel
set_option maxRecDepth 100000 in
theorem own_X6_lies : ((mNm 62).cls = cNm (mOwn 62) ∧ plainName (mNm 62).cls = true) ∧ mMax 62 = 3 := by decide +kernel
theorem st_X6_lies_0 {D : Nat} {Q : APost} {ls : AL} {st : List AV} {m : AM} (h : exP (aCC D) D true (AW D 62 Q) Q bX6_lies_0 ls st m) : AW D 62 Q 0 ls st m := AW_step chk_X6_lies h
theorem st_X6_lies_5 {D : Nat} {Q : APost} {ls : AL} {st : List AV} {m : AM} (h : exP (aCC D) D true (AW D 62 Q) Q bX6_lies_5 ls st m) : AW D 62 Q 5 ls st m := AW_step chk_X6_lies h
theorem st_X6_lies_10 {D : Nat} {Q : APost} {ls : AL} {st : List AV} {m : AM} (h : exP (aCC D) D true (AW D 62 Q) Q bX6_lies_10 ls st m) : AW D 62 Q 10 ls st m := AW_step chk_X6_lies h
theorem st_X6_lies_14 {D : Nat} {Q : APost} {ls : AL} {st : List AV} {m : AM} (h : exP (aCC D) D true (AW D 62 Q) Q bX6_lies_14 ls st m) : AW D 62 Q 14 ls st m := AW_step chk_X6_lies h
theorem st_X6_lies_15 {D : Nat} {Q : APost} {ls : AL} {st : List AV} {m : AM} (h : exP (aCC D) D true (AW D 62 Q) Q bX6_lies_15 ls st m) : AW D 62 Q 15 ls st m := AW_step chk_X6_lies h
set_option maxRecDepth 100000 in
theorem chk_X6_isSpan : chkM 63 = true := by decide +kernel
set_option maxRecDepth 100000 in
theorem own_X6_isSpan : ((mNm 63).cls = cNm (mOwn 63) ∧ plainName (mNm 63).cls = true) ∧ mMax 63 = 2 := by decide +kernel
theorem st_X6_isSpan_0 {D : Nat} {Q : APost} {ls : AL} {st : List AV} {m : AM} (h : exP (aCC D) D true (AW D 63 Q) Q bX6_isSpan_0 ls st m) : AW D 63 Q 0 ls st m := AW_step chk_X6_isSpan h
theorem st_X6_isSpan_11 {D : Nat} {Q : APost} {ls : AL} {st : List AV} {m : AM} (h : exP (aCC D) D true (AW D 63 Q) Q bX6_isSpan_11 ls st m) : AW D 63 Q 11 ls st m := AW_step chk_X6_isSpan h
theorem st_X6_isSpan_22 {D : Nat} {Q : APost} {ls : AL} {st : List AV} {m : AM} (h : exP (aCC D) D true (AW D 63 Q) Q bX6_isSpan_22 ls st m) : AW D 63 Q 22 ls st m := AW_step chk_X6_isSpan h
theorem st_X6_isSpan_26 {D : Nat} {Q : APost} {ls : AL} {st : List AV} {m : AM} (h : exP (aCC D) D true (AW D 63 Q) Q bX6_isSpan_26 ls st m) : AW D 63 Q 26 ls st m := AW_step chk_X6_isSpan h
theorem st_X6_isSpan_27 {D : Nat} {Q : APost} {ls : AL} {st : List AV} {m : AM} (h : exP (aCC D) D true (AW D 63 Q) Q bX6_isSpan_27 ls st m) : AW D 63 Q 27 ls st m := AW_step chk_X6_isSpan h
set_option maxRecDepth 100000 in
theorem chk_X6_has : chkM 64 = true := by decide +kernel
set_option maxRecDepth 100000 in
theorem own_X6_has : ((mNm 64).cls = cNm (mOwn 64) ∧ plainName (mNm 64).cls = true) ∧ mMax 64 = 2 := by decide +kernel
theorem st_X6_has_0 {D : Nat} {Q : APost} {ls : AL} {st : List AV} {m : AM} (h : exP (aCC D) D true (AW D 64 Q) Q bX6_has_0 ls st m) : AW D 64 Q 0 ls st m := AW_step chk_X6_has h
theorem st_X6_has_9 {D : Nat} {Q : APost} {ls : AL} {st : List AV} {m : AM} (h : exP (aCC D) D true (AW D 64 Q) Q bX6_has_9 ls st m) : AW D 64 Q 9 ls st m := AW_step chk_X6_has h
theorem st_X6_has_13 {D : Nat} {Q : APost} {ls : AL} {st : List AV} {m : AM} (h : exP (aCC D) D true (AW D 64 Q) Q bX6_has_13 ls st m) : AW D 64 Q 13 ls st m := AW_step chk_X6_has h
theorem st_X6_has_14 {D : Nat} {Q : APost} {ls : AL} {st : List AV} {m : AM} (h : exP (aCC D) D true (AW D 64 Q) Q bX6_has_14 ls st m) : AW D 64 Q 14 ls st m := AW_step chk_X6_has h
set_option maxRecDepth 100000 in
theorem chk_X6_isDeed : chkM 65 = true := by decide +kernel
set_option maxRecDepth 100000 in
theorem own_X6_isDeed : ((mNm 65).cls = cNm (mOwn 65) ∧ plainName (mNm 65).cls = true) ∧ mMax 65 = 2 := by decide +kernel
theorem st_X6_isDeed_0 {D : Nat} {Q : APost} {ls : AL} {st : List AV} {m : AM} (h : exP (aCC D) D true (AW D 65 Q) Q bX6_isDeed_0 ls st m) : AW D 65 Q 0 ls st m := AW_step chk_X6_isDeed h
set_option maxRecDepth 100000 in
theorem chk_X6_person : chkM 66 = true := by decide +kernel
set_option maxRecDepth 100000 in
theorem own_X6_person : ((mNm 66).cls = cNm (mOwn 66) ∧ plainName (mNm 66).cls = true) ∧ mMax 66 = 3 := by decide +kernel
theorem st_X6_person_0 {D : Nat} {Q : APost} {ls : AL} {st : List AV} {m : AM} (h : exP (aCC D) D false (AW D 66 Q) Q bX6_person_0 ls st m) : AW D 66 Q 0 ls st m := AW_step chk_X6_person h
theorem st_X6_person_9 {D : Nat} {Q : APost} {ls : AL} {st : List AV} {m : AM} (h : exP (aCC D) D false (AW D 66 Q) Q bX6_person_9 ls st m) : AW D 66 Q 9 ls st m := AW_step chk_X6_person h
theorem st_X6_person_17 {D : Nat} {Q : APost} {ls : AL} {st : List AV} {m : AM} (h : exP (aCC D) D false (AW D 66 Q) Q bX6_person_17 ls st m) : AW D 66 Q 17 ls st m := AW_step chk_X6_person h
theorem st_X6_person_19 {D : Nat} {Q : APost} {ls : AL} {st : List AV} {m : AM} (h : exP (aCC D) D false (AW D 66 Q) Q bX6_person_19 ls st m) : AW D 66 Q 19 ls st m := AW_step chk_X6_person h
set_option maxRecDepth 100000 in
theorem chk_X6_lived : chkM 67 = true := by decide +kernel
set_option maxRecDepth 100000 in
theorem own_X6_lived : ((mNm 67).cls = cNm (mOwn 67) ∧ plainName (mNm 67).cls = true) ∧ mMax 67 = 4 := by decide +kernel
theorem st_X6_lived_0 {D : Nat} {Q : APost} {ls : AL} {st : List AV} {m : AM} (h : exP (aCC D) D true (AW D 67 Q) Q bX6_lived_0 ls st m) : AW D 67 Q 0 ls st m := AW_step chk_X6_lived h
theorem st_X6_lived_14 {D : Nat} {Q : APost} {ls : AL} {st : List AV} {m : AM} (h : exP (aCC D) D true (AW D 67 Q) Q bX6_lived_14 ls st m) : AW D 67 Q 14 ls st m := AW_step chk_X6_lived h
theorem st_X6_lived_22 {D : Nat} {Q : APost} {ls : AL} {st : List AV} {m : AM} (h : exP (aCC D) D true (AW D 67 Q) Q bX6_lived_22 ls st m) : AW D 67 Q 22 ls st m := AW_step chk_X6_lived h
theorem st_X6_lived_24 {D : Nat} {Q : APost} {ls : AL} {st : List AV} {m : AM} (h : exP (aCC D) D true (AW D 67 Q) Q bX6_lived_24 ls st m) : AW D 67 Q 24 ls st m := AW_step chk_X6_lived h
set_option maxRecDepth 100000 in
theorem chk_X6_formula : chkM 68 = true := by decide +kernel
set_option maxRecDepth 100000 in
theorem own_X6_formula : ((mNm 68).cls = cNm (mOwn 68) ∧ plainName (mNm 68).cls = true) ∧ mMax 68 = 3 := by decide +kernel
theorem st_X6_formula_0 {D : Nat} {Q : APost} {ls : AL} {st : List AV} {m : AM} (h : exP (aCC D) D false (AW D 68 Q) Q bX6_formula_0 ls st m) : AW D 68 Q 0 ls st m := AW_step chk_X6_formula h
theorem st_X6_formula_9 {D : Nat} {Q : APost} {ls : AL} {st : List AV} {m : AM} (h : exP (aCC D) D false (AW D 68 Q) Q bX6_formula_9 ls st m) : AW D 68 Q 9 ls st m := AW_step chk_X6_formula h
theorem st_X6_formula_17 {D : Nat} {Q : APost} {ls : AL} {st : List AV} {m : AM} (h : exP (aCC D) D false (AW D 68 Q) Q bX6_formula_17 ls st m) : AW D 68 Q 17 ls st m := AW_step chk_X6_formula h
theorem st_X6_formula_19 {D : Nat} {Q : APost} {ls : AL} {st : List AV} {m : AM} (h : exP (aCC D) D false (AW D 68 Q) Q bX6_formula_19 ls st m) : AW D 68 Q 19 ls st m := AW_step chk_X6_formula h
set_option maxRecDepth 100000 in
theorem chk_X6_seal : chkM 69 = true := by decide +kernel
set_option maxRecDepth 100000 in
theorem own_X6_seal : ((mNm 69).cls = cNm (mOwn 69) ∧ plainName (mNm 69).cls = true) ∧ mMax 69 = 3 := by decide +kernel
theorem st_X6_seal_0 {D : Nat} {Q : APost} {ls : AL} {st : List AV} {m : AM} (h : exP (aCC D) D false (AW D 69 Q) Q bX6_seal_0 ls st m) : AW D 69 Q 0 ls st m := AW_step chk_X6_seal h
theorem st_X6_seal_9 {D : Nat} {Q : APost} {ls : AL} {st : List AV} {m : AM} (h : exP (aCC D) D false (AW D 69 Q) Q bX6_seal_9 ls st m) : AW D 69 Q 9 ls st m := AW_step chk_X6_seal h
theorem st_X6_seal_17 {D : Nat} {Q : APost} {ls : AL} {st : List AV} {m : AM} (h : exP (aCC D) D false (AW D 69 Q) Q bX6_seal_17 ls st m) : AW D 69 Q 17 ls st m := AW_step chk_X6_seal h
theorem st_X6_seal_19 {D : Nat} {Q : APost} {ls : AL} {st : List AV} {m : AM} (h : exP (aCC D) D false (AW D 69 Q) Q bX6_seal_19 ls st m) : AW D 69 Q 19 ls st m := AW_step chk_X6_seal h
set_option maxRecDepth 100000 in
theorem chk_X6_span : chkM 70 = true := by decide +kernel
set_option maxRecDepth 100000 in
theorem own_X6_span : ((mNm 70).cls = cNm (mOwn 70) ∧ plainName (mNm 70).cls = true) ∧ mMax 70 = 2 := by decide +kernel
theorem st_X6_span_0 {D : Nat} {Q : APost} {ls : AL} {st : List AV} {m : AM} (h : exP (aCC D) D true (AW D 70 Q) Q bX6_span_0 ls st m) : AW D 70 Q 0 ls st m := AW_step chk_X6_span h
theorem st_X6_span_11 {D : Nat} {Q : APost} {ls : AL} {st : List AV} {m : AM} (h : exP (aCC D) D true (AW D 70 Q) Q bX6_span_11 ls st m) : AW D 70 Q 11 ls st m := AW_step chk_X6_span h
theorem st_X6_span_13 {D : Nat} {Q : APost} {ls : AL} {st : List AV} {m : AM} (h : exP (aCC D) D true (AW D 70 Q) Q bX6_span_13 ls st m) : AW D 70 Q 13 ls st m := AW_step chk_X6_span h
set_option maxRecDepth 100000 in
theorem chk_X6_deed : chkM 71 = true := by decide +kernel
set_option maxRecDepth 100000 in
theorem own_X6_deed : ((mNm 71).cls = cNm (mOwn 71) ∧ plainName (mNm 71).cls = true) ∧ mMax 71 = 4 := by decide +kernel
theorem st_X6_deed_0 {D : Nat} {Q : APost} {ls : AL} {st : List AV} {m : AM} (h : exP (aCC D) D false (AW D 71 Q) Q bX6_deed_0 ls st m) : AW D 71 Q 0 ls st m := AW_step chk_X6_deed h
theorem st_X6_deed_9 {D : Nat} {Q : APost} {ls : AL} {st : List AV} {m : AM} (h : exP (aCC D) D false (AW D 71 Q) Q bX6_deed_9 ls st m) : AW D 71 Q 9 ls st m := AW_step chk_X6_deed h
theorem st_X6_deed_17 {D : Nat} {Q : APost} {ls : AL} {st : List AV} {m : AM} (h : exP (aCC D) D false (AW D 71 Q) Q bX6_deed_17 ls st m) : AW D 71 Q 17 ls st m := AW_step chk_X6_deed h
theorem st_X6_deed_27 {D : Nat} {Q : APost} {ls : AL} {st : List AV} {m : AM} (h : exP (aCC D) D false (AW D 71 Q) Q bX6_deed_27 ls st m) : AW D 71 Q 27 ls st m := AW_step chk_X6_deed h
theorem st_X6_deed_29 {D : Nat} {Q : APost} {ls : AL} {st : List AV} {m : AM} (h : exP (aCC D) D false (AW D 71 Q) Q bX6_deed_29 ls st m) : AW D 71 Q 29 ls st m := AW_step chk_X6_deed h
set_option maxRecDepth 100000 in
theorem chk_X6_manyOf : chkM 72 = true := by decide +kernel
set_option maxRecDepth 100000 in
theorem own_X6_manyOf : ((mNm 72).cls = cNm (mOwn 72) ∧ plainName (mNm 72).cls = true) ∧ mMax 72 = 2 := by decide +kernel
theorem st_X6_manyOf_0 {D : Nat} {Q : APost} {ls : AL} {st : List AV} {m : AM} (h : exP (aCC D) D false (AW D 72 Q) Q bX6_manyOf_0 ls st m) : AW D 72 Q 0 ls st m := AW_step chk_X6_manyOf h
theorem st_X6_manyOf_36 {D : Nat} {Q : APost} {ls : AL} {st : List AV} {m : AM} (h : exP (aCC D) D false (AW D 72 Q) Q bX6_manyOf_36 ls st m) : AW D 72 Q 36 ls st m := AW_step chk_X6_manyOf h
theorem st_X6_manyOf_41 {D : Nat} {Q : APost} {ls : AL} {st : List AV} {m : AM} (h : exP (aCC D) D false (AW D 72 Q) Q bX6_manyOf_41 ls st m) : AW D 72 Q 41 ls st m := AW_step chk_X6_manyOf h
theorem st_X6_manyOf_46 {D : Nat} {Q : APost} {ls : AL} {st : List AV} {m : AM} (h : exP (aCC D) D false (AW D 72 Q) Q bX6_manyOf_46 ls st m) : AW D 72 Q 46 ls st m := AW_step chk_X6_manyOf h
theorem st_X6_manyOf_51 {D : Nat} {Q : APost} {ls : AL} {st : List AV} {m : AM} (h : exP (aCC D) D false (AW D 72 Q) Q bX6_manyOf_51 ls st m) : AW D 72 Q 51 ls st m := AW_step chk_X6_manyOf h
theorem st_X6_manyOf_54 {D : Nat} {Q : APost} {ls : AL} {st : List AV} {m : AM} (h : exP (aCC D) D false (AW D 72 Q) Q bX6_manyOf_54 ls st m) : AW D 72 Q 54 ls st m := AW_step chk_X6_manyOf h
theorem st_X6_manyOf_59 {D : Nat} {Q : APost} {ls : AL} {st : List AV} {m : AM} (h : exP (aCC D) D false (AW D 72 Q) Q bX6_manyOf_59 ls st m) : AW D 72 Q 59 ls st m := AW_step chk_X6_manyOf h
set_option maxRecDepth 100000 in
theorem chk_X6_hasMark : chkM 73 = true := by decide +kernel
set_option maxRecDepth 100000 in
theorem own_X6_hasMark : ((mNm 73).cls = cNm (mOwn 73) ∧ plainName (mNm 73).cls = true) ∧ mMax 73 = 5 := by decide +kernel
theorem st_X6_hasMark_0 {D : Nat} {Q : APost} {ls : AL} {st : List AV} {m : AM} (h : exP (aCC D) D true (AW D 73 Q) Q bX6_hasMark_0 ls st m) : AW D 73 Q 0 ls st m := AW_step chk_X6_hasMark h
theorem st_X6_hasMark_6 {D : Nat} {Q : APost} {ls : AL} {st : List AV} {m : AM} (h : exP (aCC D) D true (AW D 73 Q) Q bX6_hasMark_6 ls st m) : AW D 73 Q 6 ls st m := AW_step chk_X6_hasMark h
theorem st_X6_hasMark_22 {D : Nat} {Q : APost} {ls : AL} {st : List AV} {m : AM} (h : exP (aCC D) D true (AW D 73 Q) Q bX6_hasMark_22 ls st m) : AW D 73 Q 22 ls st m := AW_step chk_X6_hasMark h
theorem st_X6_hasMark_33 {D : Nat} {Q : APost} {ls : AL} {st : List AV} {m : AM} (h : exP (aCC D) D true (AW D 73 Q) Q bX6_hasMark_33 ls st m) : AW D 73 Q 33 ls st m := AW_step chk_X6_hasMark h
theorem st_X6_hasMark_44 {D : Nat} {Q : APost} {ls : AL} {st : List AV} {m : AM} (h : exP (aCC D) D true (AW D 73 Q) Q bX6_hasMark_44 ls st m) : AW D 73 Q 44 ls st m := AW_step chk_X6_hasMark h
theorem st_X6_hasMark_46 {D : Nat} {Q : APost} {ls : AL} {st : List AV} {m : AM} (h : exP (aCC D) D true (AW D 73 Q) Q bX6_hasMark_46 ls st m) : AW D 73 Q 46 ls st m := AW_step chk_X6_hasMark h
theorem st_X6_hasMark_52 {D : Nat} {Q : APost} {ls : AL} {st : List AV} {m : AM} (h : exP (aCC D) D true (AW D 73 Q) Q bX6_hasMark_52 ls st m) : AW D 73 Q 52 ls st m := AW_step chk_X6_hasMark h
set_option maxRecDepth 100000 in
theorem chk_X6_mark : chkM 74 = true := by decide +kernel
set_option maxRecDepth 100000 in
theorem own_X6_mark : ((mNm 74).cls = cNm (mOwn 74) ∧ plainName (mNm 74).cls = true) ∧ mMax 74 = 4 := by decide +kernel
theorem st_X6_mark_0 {D : Nat} {Q : APost} {ls : AL} {st : List AV} {m : AM} (h : exP (aCC D) D true (AW D 74 Q) Q bX6_mark_0 ls st m) : AW D 74 Q 0 ls st m := AW_step chk_X6_mark h
theorem st_X6_mark_8 {D : Nat} {Q : APost} {ls : AL} {st : List AV} {m : AM} (h : exP (aCC D) D true (AW D 74 Q) Q bX6_mark_8 ls st m) : AW D 74 Q 8 ls st m := AW_step chk_X6_mark h
theorem st_X6_mark_23 {D : Nat} {Q : APost} {ls : AL} {st : List AV} {m : AM} (h : exP (aCC D) D true (AW D 74 Q) Q bX6_mark_23 ls st m) : AW D 74 Q 23 ls st m := AW_step chk_X6_mark h
theorem st_X6_mark_28 {D : Nat} {Q : APost} {ls : AL} {st : List AV} {m : AM} (h : exP (aCC D) D true (AW D 74 Q) Q bX6_mark_28 ls st m) : AW D 74 Q 28 ls st m := AW_step chk_X6_mark h
theorem st_X6_mark_33 {D : Nat} {Q : APost} {ls : AL} {st : List AV} {m : AM} (h : exP (aCC D) D true (AW D 74 Q) Q bX6_mark_33 ls st m) : AW D 74 Q 33 ls st m := AW_step chk_X6_mark h
theorem st_X6_mark_44 {D : Nat} {Q : APost} {ls : AL} {st : List AV} {m : AM} (h : exP (aCC D) D true (AW D 74 Q) Q bX6_mark_44 ls st m) : AW D 74 Q 44 ls st m := AW_step chk_X6_mark h
theorem st_X6_mark_54 {D : Nat} {Q : APost} {ls : AL} {st : List AV} {m : AM} (h : exP (aCC D) D true (AW D 74 Q) Q bX6_mark_54 ls st m) : AW D 74 Q 54 ls st m := AW_step chk_X6_mark h
theorem st_X6_mark_56 {D : Nat} {Q : APost} {ls : AL} {st : List AV} {m : AM} (h : exP (aCC D) D true (AW D 74 Q) Q bX6_mark_56 ls st m) : AW D 74 Q 56 ls st m := AW_step chk_X6_mark h
set_option maxRecDepth 100000 in
theorem chk_X6_narrows : chkM 75 = true := by decide +kernel
set_option maxRecDepth 100000 in
theorem own_X6_narrows : ((mNm 75).cls = cNm (mOwn 75) ∧ plainName (mNm 75).cls = true) ∧ mMax 75 = 4 := by decide +kernel
theorem st_X6_narrows_0 {D : Nat} {Q : APost} {ls : AL} {st : List AV} {m : AM} (h : exP (aCC D) D false (AW D 75 Q) Q bX6_narrows_0 ls st m) : AW D 75 Q 0 ls st m := AW_step chk_X6_narrows h
theorem st_X6_narrows_15 {D : Nat} {Q : APost} {ls : AL} {st : List AV} {m : AM} (h : exP (aCC D) D false (AW D 75 Q) Q bX6_narrows_15 ls st m) : AW D 75 Q 15 ls st m := AW_step chk_X6_narrows h
theorem st_X6_narrows_19 {D : Nat} {Q : APost} {ls : AL} {st : List AV} {m : AM} (h : exP (aCC D) D false (AW D 75 Q) Q bX6_narrows_19 ls st m) : AW D 75 Q 19 ls st m := AW_step chk_X6_narrows h
theorem st_X6_narrows_25 {D : Nat} {Q : APost} {ls : AL} {st : List AV} {m : AM} (h : exP (aCC D) D false (AW D 75 Q) Q bX6_narrows_25 ls st m) : AW D 75 Q 25 ls st m := AW_step chk_X6_narrows h
theorem st_X6_narrows_41 {D : Nat} {Q : APost} {ls : AL} {st : List AV} {m : AM} (h : exP (aCC D) D false (AW D 75 Q) Q bX6_narrows_41 ls st m) : AW D 75 Q 41 ls st m := AW_step chk_X6_narrows h
theorem st_X6_narrows_45 {D : Nat} {Q : APost} {ls : AL} {st : List AV} {m : AM} (h : exP (aCC D) D false (AW D 75 Q) Q bX6_narrows_45 ls st m) : AW D 75 Q 45 ls st m := AW_step chk_X6_narrows h
theorem st_X6_narrows_51 {D : Nat} {Q : APost} {ls : AL} {st : List AV} {m : AM} (h : exP (aCC D) D false (AW D 75 Q) Q bX6_narrows_51 ls st m) : AW D 75 Q 51 ls st m := AW_step chk_X6_narrows h
set_option maxRecDepth 100000 in
theorem chk_X6_owns : chkM 76 = true := by decide +kernel
set_option maxRecDepth 100000 in
theorem own_X6_owns : ((mNm 76).cls = cNm (mOwn 76) ∧ plainName (mNm 76).cls = true) ∧ mMax 76 = 5 := by decide +kernel
theorem st_X6_owns_0 {D : Nat} {Q : APost} {ls : AL} {st : List AV} {m : AM} (h : exP (aCC D) D false (AW D 76 Q) Q bX6_owns_0 ls st m) : AW D 76 Q 0 ls st m := AW_step chk_X6_owns h
theorem st_X6_owns_2 {D : Nat} {Q : APost} {ls : AL} {st : List AV} {m : AM} (h : exP (aCC D) D false (AW D 76 Q) Q bX6_owns_2 ls st m) : AW D 76 Q 2 ls st m := AW_step chk_X6_owns h
theorem st_X6_owns_10 {D : Nat} {Q : APost} {ls : AL} {st : List AV} {m : AM} (h : exP (aCC D) D false (AW D 76 Q) Q bX6_owns_10 ls st m) : AW D 76 Q 10 ls st m := AW_step chk_X6_owns h
theorem st_X6_owns_39 {D : Nat} {Q : APost} {ls : AL} {st : List AV} {m : AM} (h : exP (aCC D) D false (AW D 76 Q) Q bX6_owns_39 ls st m) : AW D 76 Q 39 ls st m := AW_step chk_X6_owns h
theorem st_X6_owns_54 {D : Nat} {Q : APost} {ls : AL} {st : List AV} {m : AM} (h : exP (aCC D) D false (AW D 76 Q) Q bX6_owns_54 ls st m) : AW D 76 Q 54 ls st m := AW_step chk_X6_owns h
theorem st_X6_owns_70 {D : Nat} {Q : APost} {ls : AL} {st : List AV} {m : AM} (h : exP (aCC D) D false (AW D 76 Q) Q bX6_owns_70 ls st m) : AW D 76 Q 70 ls st m := AW_step chk_X6_owns h
theorem st_X6_owns_87 {D : Nat} {Q : APost} {ls : AL} {st : List AV} {m : AM} (h : exP (aCC D) D false (AW D 76 Q) Q bX6_owns_87 ls st m) : AW D 76 Q 87 ls st m := AW_step chk_X6_owns h
theorem st_X6_owns_97 {D : Nat} {Q : APost} {ls : AL} {st : List AV} {m : AM} (h : exP (aCC D) D false (AW D 76 Q) Q bX6_owns_97 ls st m) : AW D 76 Q 97 ls st m := AW_step chk_X6_owns h
theorem st_X6_owns_114 {D : Nat} {Q : APost} {ls : AL} {st : List AV} {m : AM} (h : exP (aCC D) D false (AW D 76 Q) Q bX6_owns_114 ls st m) : AW D 76 Q 114 ls st m := AW_step chk_X6_owns h
theorem st_X6_owns_124 {D : Nat} {Q : APost} {ls : AL} {st : List AV} {m : AM} (h : exP (aCC D) D false (AW D 76 Q) Q bX6_owns_124 ls st m) : AW D 76 Q 124 ls st m := AW_step chk_X6_owns h
theorem st_X6_owns_141 {D : Nat} {Q : APost} {ls : AL} {st : List AV} {m : AM} (h : exP (aCC D) D false (AW D 76 Q) Q bX6_owns_141 ls st m) : AW D 76 Q 141 ls st m := AW_step chk_X6_owns h
theorem st_X6_owns_147 {D : Nat} {Q : APost} {ls : AL} {st : List AV} {m : AM} (h : exP (aCC D) D false (AW D 76 Q) Q bX6_owns_147 ls st m) : AW D 76 Q 147 ls st m := AW_step chk_X6_owns h
theorem st_X6_owns_149 {D : Nat} {Q : APost} {ls : AL} {st : List AV} {m : AM} (h : exP (aCC D) D false (AW D 76 Q) Q bX6_owns_149 ls st m) : AW D 76 Q 149 ls st m := AW_step chk_X6_owns h
theorem st_X6_owns_157 {D : Nat} {Q : APost} {ls : AL} {st : List AV} {m : AM} (h : exP (aCC D) D false (AW D 76 Q) Q bX6_owns_157 ls st m) : AW D 76 Q 157 ls st m := AW_step chk_X6_owns h
theorem st_X6_owns_162 {D : Nat} {Q : APost} {ls : AL} {st : List AV} {m : AM} (h : exP (aCC D) D false (AW D 76 Q) Q bX6_owns_162 ls st m) : AW D 76 Q 162 ls st m := AW_step chk_X6_owns h
theorem st_X6_owns_169 {D : Nat} {Q : APost} {ls : AL} {st : List AV} {m : AM} (h : exP (aCC D) D false (AW D 76 Q) Q bX6_owns_169 ls st m) : AW D 76 Q 169 ls st m := AW_step chk_X6_owns h
theorem st_X6_owns_173 {D : Nat} {Q : APost} {ls : AL} {st : List AV} {m : AM} (h : exP (aCC D) D false (AW D 76 Q) Q bX6_owns_173 ls st m) : AW D 76 Q 173 ls st m := AW_step chk_X6_owns h
theorem st_X6_owns_184 {D : Nat} {Q : APost} {ls : AL} {st : List AV} {m : AM} (h : exP (aCC D) D false (AW D 76 Q) Q bX6_owns_184 ls st m) : AW D 76 Q 184 ls st m := AW_step chk_X6_owns h
theorem st_X6_owns_195 {D : Nat} {Q : APost} {ls : AL} {st : List AV} {m : AM} (h : exP (aCC D) D false (AW D 76 Q) Q bX6_owns_195 ls st m) : AW D 76 Q 195 ls st m := AW_step chk_X6_owns h
theorem st_X6_owns_199 {D : Nat} {Q : APost} {ls : AL} {st : List AV} {m : AM} (h : exP (aCC D) D false (AW D 76 Q) Q bX6_owns_199 ls st m) : AW D 76 Q 199 ls st m := AW_step chk_X6_owns h
theorem st_X6_owns_200 {D : Nat} {Q : APost} {ls : AL} {st : List AV} {m : AM} (h : exP (aCC D) D false (AW D 76 Q) Q bX6_owns_200 ls st m) : AW D 76 Q 200 ls st m := AW_step chk_X6_owns h
theorem st_X6_owns_207 {D : Nat} {Q : APost} {ls : AL} {st : List AV} {m : AM} (h : exP (aCC D) D false (AW D 76 Q) Q bX6_owns_207 ls st m) : AW D 76 Q 207 ls st m := AW_step chk_X6_owns h
theorem st_X6_owns_243 {D : Nat} {Q : APost} {ls : AL} {st : List AV} {m : AM} (h : exP (aCC D) D false (AW D 76 Q) Q bX6_owns_243 ls st m) : AW D 76 Q 243 ls st m := AW_step chk_X6_owns h
theorem st_X6_owns_249 {D : Nat} {Q : APost} {ls : AL} {st : List AV} {m : AM} (h : exP (aCC D) D false (AW D 76 Q) Q bX6_owns_249 ls st m) : AW D 76 Q 249 ls st m := AW_step chk_X6_owns h
set_option maxRecDepth 100000 in
theorem chk_X6_ups : chkM 77 = true := by decide +kernel
set_option maxRecDepth 100000 in
theorem own_X6_ups : ((mNm 77).cls = cNm (mOwn 77) ∧ plainName (mNm 77).cls = true) ∧ mMax 77 = 6 := by decide +kernel
theorem st_X6_ups_0 {D : Nat} {Q : APost} {ls : AL} {st : List AV} {m : AM} (h : exP (aCC D) D false (AW D 77 Q) Q bX6_ups_0 ls st m) : AW D 77 Q 0 ls st m := AW_step chk_X6_ups h
theorem st_X6_ups_2 {D : Nat} {Q : APost} {ls : AL} {st : List AV} {m : AM} (h : exP (aCC D) D false (AW D 77 Q) Q bX6_ups_2 ls st m) : AW D 77 Q 2 ls st m := AW_step chk_X6_ups h
theorem st_X6_ups_10 {D : Nat} {Q : APost} {ls : AL} {st : List AV} {m : AM} (h : exP (aCC D) D false (AW D 77 Q) Q bX6_ups_10 ls st m) : AW D 77 Q 10 ls st m := AW_step chk_X6_ups h
theorem st_X6_ups_28 {D : Nat} {Q : APost} {ls : AL} {st : List AV} {m : AM} (h : exP (aCC D) D false (AW D 77 Q) Q bX6_ups_28 ls st m) : AW D 77 Q 28 ls st m := AW_step chk_X6_ups h
theorem st_X6_ups_30 {D : Nat} {Q : APost} {ls : AL} {st : List AV} {m : AM} (h : exP (aCC D) D false (AW D 77 Q) Q bX6_ups_30 ls st m) : AW D 77 Q 30 ls st m := AW_step chk_X6_ups h
theorem st_X6_ups_34 {D : Nat} {Q : APost} {ls : AL} {st : List AV} {m : AM} (h : exP (aCC D) D false (AW D 77 Q) Q bX6_ups_34 ls st m) : AW D 77 Q 34 ls st m := AW_step chk_X6_ups h
theorem st_X6_ups_38 {D : Nat} {Q : APost} {ls : AL} {st : List AV} {m : AM} (h : exP (aCC D) D false (AW D 77 Q) Q bX6_ups_38 ls st m) : AW D 77 Q 38 ls st m := AW_step chk_X6_ups h
theorem st_X6_ups_46 {D : Nat} {Q : APost} {ls : AL} {st : List AV} {m : AM} (h : exP (aCC D) D false (AW D 77 Q) Q bX6_ups_46 ls st m) : AW D 77 Q 46 ls st m := AW_step chk_X6_ups h
theorem st_X6_ups_49 {D : Nat} {Q : APost} {ls : AL} {st : List AV} {m : AM} (h : exP (aCC D) D false (AW D 77 Q) Q bX6_ups_49 ls st m) : AW D 77 Q 49 ls st m := AW_step chk_X6_ups h
theorem st_X6_ups_58 {D : Nat} {Q : APost} {ls : AL} {st : List AV} {m : AM} (h : exP (aCC D) D false (AW D 77 Q) Q bX6_ups_58 ls st m) : AW D 77 Q 58 ls st m := AW_step chk_X6_ups h
theorem st_X6_ups_64 {D : Nat} {Q : APost} {ls : AL} {st : List AV} {m : AM} (h : exP (aCC D) D false (AW D 77 Q) Q bX6_ups_64 ls st m) : AW D 77 Q 64 ls st m := AW_step chk_X6_ups h
theorem st_X6_ups_72 {D : Nat} {Q : APost} {ls : AL} {st : List AV} {m : AM} (h : exP (aCC D) D false (AW D 77 Q) Q bX6_ups_72 ls st m) : AW D 77 Q 72 ls st m := AW_step chk_X6_ups h
theorem st_X6_ups_81 {D : Nat} {Q : APost} {ls : AL} {st : List AV} {m : AM} (h : exP (aCC D) D false (AW D 77 Q) Q bX6_ups_81 ls st m) : AW D 77 Q 81 ls st m := AW_step chk_X6_ups h
theorem st_X6_ups_84 {D : Nat} {Q : APost} {ls : AL} {st : List AV} {m : AM} (h : exP (aCC D) D false (AW D 77 Q) Q bX6_ups_84 ls st m) : AW D 77 Q 84 ls st m := AW_step chk_X6_ups h
theorem st_X6_ups_99 {D : Nat} {Q : APost} {ls : AL} {st : List AV} {m : AM} (h : exP (aCC D) D false (AW D 77 Q) Q bX6_ups_99 ls st m) : AW D 77 Q 99 ls st m := AW_step chk_X6_ups h
theorem st_X6_ups_109 {D : Nat} {Q : APost} {ls : AL} {st : List AV} {m : AM} (h : exP (aCC D) D false (AW D 77 Q) Q bX6_ups_109 ls st m) : AW D 77 Q 109 ls st m := AW_step chk_X6_ups h
theorem st_X6_ups_124 {D : Nat} {Q : APost} {ls : AL} {st : List AV} {m : AM} (h : exP (aCC D) D false (AW D 77 Q) Q bX6_ups_124 ls st m) : AW D 77 Q 124 ls st m := AW_step chk_X6_ups h
theorem st_X6_ups_139 {D : Nat} {Q : APost} {ls : AL} {st : List AV} {m : AM} (h : exP (aCC D) D false (AW D 77 Q) Q bX6_ups_139 ls st m) : AW D 77 Q 139 ls st m := AW_step chk_X6_ups h
theorem st_X6_ups_145 {D : Nat} {Q : APost} {ls : AL} {st : List AV} {m : AM} (h : exP (aCC D) D false (AW D 77 Q) Q bX6_ups_145 ls st m) : AW D 77 Q 145 ls st m := AW_step chk_X6_ups h
theorem st_X6_ups_158 {D : Nat} {Q : APost} {ls : AL} {st : List AV} {m : AM} (h : exP (aCC D) D false (AW D 77 Q) Q bX6_ups_158 ls st m) : AW D 77 Q 158 ls st m := AW_step chk_X6_ups h
theorem st_X6_ups_161 {D : Nat} {Q : APost} {ls : AL} {st : List AV} {m : AM} (h : exP (aCC D) D false (AW D 77 Q) Q bX6_ups_161 ls st m) : AW D 77 Q 161 ls st m := AW_step chk_X6_ups h
theorem st_X6_ups_171 {D : Nat} {Q : APost} {ls : AL} {st : List AV} {m : AM} (h : exP (aCC D) D false (AW D 77 Q) Q bX6_ups_171 ls st m) : AW D 77 Q 171 ls st m := AW_step chk_X6_ups h
theorem st_X6_ups_177 {D : Nat} {Q : APost} {ls : AL} {st : List AV} {m : AM} (h : exP (aCC D) D false (AW D 77 Q) Q bX6_ups_177 ls st m) : AW D 77 Q 177 ls st m := AW_step chk_X6_ups h
theorem st_X6_ups_183 {D : Nat} {Q : APost} {ls : AL} {st : List AV} {m : AM} (h : exP (aCC D) D false (AW D 77 Q) Q bX6_ups_183 ls st m) : AW D 77 Q 183 ls st m := AW_step chk_X6_ups h
theorem st_X6_ups_186 {D : Nat} {Q : APost} {ls : AL} {st : List AV} {m : AM} (h : exP (aCC D) D false (AW D 77 Q) Q bX6_ups_186 ls st m) : AW D 77 Q 186 ls st m := AW_step chk_X6_ups h
set_option maxRecDepth 100000 in
theorem chk_X6_downs : chkM 78 = true := by decide +kernel
set_option maxRecDepth 100000 in
theorem own_X6_downs : ((mNm 78).cls = cNm (mOwn 78) ∧ plainName (mNm 78).cls = true) ∧ mMax 78 = 6 := by decide +kernel
theorem st_X6_downs_0 {D : Nat} {Q : APost} {ls : AL} {st : List AV} {m : AM} (h : exP (aCC D) D false (AW D 78 Q) Q bX6_downs_0 ls st m) : AW D 78 Q 0 ls st m := AW_step chk_X6_downs h
theorem st_X6_downs_2 {D : Nat} {Q : APost} {ls : AL} {st : List AV} {m : AM} (h : exP (aCC D) D false (AW D 78 Q) Q bX6_downs_2 ls st m) : AW D 78 Q 2 ls st m := AW_step chk_X6_downs h
theorem st_X6_downs_10 {D : Nat} {Q : APost} {ls : AL} {st : List AV} {m : AM} (h : exP (aCC D) D false (AW D 78 Q) Q bX6_downs_10 ls st m) : AW D 78 Q 10 ls st m := AW_step chk_X6_downs h
theorem st_X6_downs_28 {D : Nat} {Q : APost} {ls : AL} {st : List AV} {m : AM} (h : exP (aCC D) D false (AW D 78 Q) Q bX6_downs_28 ls st m) : AW D 78 Q 28 ls st m := AW_step chk_X6_downs h
theorem st_X6_downs_30 {D : Nat} {Q : APost} {ls : AL} {st : List AV} {m : AM} (h : exP (aCC D) D false (AW D 78 Q) Q bX6_downs_30 ls st m) : AW D 78 Q 30 ls st m := AW_step chk_X6_downs h
theorem st_X6_downs_34 {D : Nat} {Q : APost} {ls : AL} {st : List AV} {m : AM} (h : exP (aCC D) D false (AW D 78 Q) Q bX6_downs_34 ls st m) : AW D 78 Q 34 ls st m := AW_step chk_X6_downs h
theorem st_X6_downs_38 {D : Nat} {Q : APost} {ls : AL} {st : List AV} {m : AM} (h : exP (aCC D) D false (AW D 78 Q) Q bX6_downs_38 ls st m) : AW D 78 Q 38 ls st m := AW_step chk_X6_downs h
theorem st_X6_downs_46 {D : Nat} {Q : APost} {ls : AL} {st : List AV} {m : AM} (h : exP (aCC D) D false (AW D 78 Q) Q bX6_downs_46 ls st m) : AW D 78 Q 46 ls st m := AW_step chk_X6_downs h
theorem st_X6_downs_49 {D : Nat} {Q : APost} {ls : AL} {st : List AV} {m : AM} (h : exP (aCC D) D false (AW D 78 Q) Q bX6_downs_49 ls st m) : AW D 78 Q 49 ls st m := AW_step chk_X6_downs h
theorem st_X6_downs_58 {D : Nat} {Q : APost} {ls : AL} {st : List AV} {m : AM} (h : exP (aCC D) D false (AW D 78 Q) Q bX6_downs_58 ls st m) : AW D 78 Q 58 ls st m := AW_step chk_X6_downs h
theorem st_X6_downs_64 {D : Nat} {Q : APost} {ls : AL} {st : List AV} {m : AM} (h : exP (aCC D) D false (AW D 78 Q) Q bX6_downs_64 ls st m) : AW D 78 Q 64 ls st m := AW_step chk_X6_downs h
theorem st_X6_downs_72 {D : Nat} {Q : APost} {ls : AL} {st : List AV} {m : AM} (h : exP (aCC D) D false (AW D 78 Q) Q bX6_downs_72 ls st m) : AW D 78 Q 72 ls st m := AW_step chk_X6_downs h
theorem st_X6_downs_81 {D : Nat} {Q : APost} {ls : AL} {st : List AV} {m : AM} (h : exP (aCC D) D false (AW D 78 Q) Q bX6_downs_81 ls st m) : AW D 78 Q 81 ls st m := AW_step chk_X6_downs h
theorem st_X6_downs_84 {D : Nat} {Q : APost} {ls : AL} {st : List AV} {m : AM} (h : exP (aCC D) D false (AW D 78 Q) Q bX6_downs_84 ls st m) : AW D 78 Q 84 ls st m := AW_step chk_X6_downs h
theorem st_X6_downs_99 {D : Nat} {Q : APost} {ls : AL} {st : List AV} {m : AM} (h : exP (aCC D) D false (AW D 78 Q) Q bX6_downs_99 ls st m) : AW D 78 Q 99 ls st m := AW_step chk_X6_downs h
theorem st_X6_downs_109 {D : Nat} {Q : APost} {ls : AL} {st : List AV} {m : AM} (h : exP (aCC D) D false (AW D 78 Q) Q bX6_downs_109 ls st m) : AW D 78 Q 109 ls st m := AW_step chk_X6_downs h
theorem st_X6_downs_124 {D : Nat} {Q : APost} {ls : AL} {st : List AV} {m : AM} (h : exP (aCC D) D false (AW D 78 Q) Q bX6_downs_124 ls st m) : AW D 78 Q 124 ls st m := AW_step chk_X6_downs h
theorem st_X6_downs_139 {D : Nat} {Q : APost} {ls : AL} {st : List AV} {m : AM} (h : exP (aCC D) D false (AW D 78 Q) Q bX6_downs_139 ls st m) : AW D 78 Q 139 ls st m := AW_step chk_X6_downs h
theorem st_X6_downs_145 {D : Nat} {Q : APost} {ls : AL} {st : List AV} {m : AM} (h : exP (aCC D) D false (AW D 78 Q) Q bX6_downs_145 ls st m) : AW D 78 Q 145 ls st m := AW_step chk_X6_downs h
theorem st_X6_downs_158 {D : Nat} {Q : APost} {ls : AL} {st : List AV} {m : AM} (h : exP (aCC D) D false (AW D 78 Q) Q bX6_downs_158 ls st m) : AW D 78 Q 158 ls st m := AW_step chk_X6_downs h
theorem st_X6_downs_161 {D : Nat} {Q : APost} {ls : AL} {st : List AV} {m : AM} (h : exP (aCC D) D false (AW D 78 Q) Q bX6_downs_161 ls st m) : AW D 78 Q 161 ls st m := AW_step chk_X6_downs h
theorem st_X6_downs_171 {D : Nat} {Q : APost} {ls : AL} {st : List AV} {m : AM} (h : exP (aCC D) D false (AW D 78 Q) Q bX6_downs_171 ls st m) : AW D 78 Q 171 ls st m := AW_step chk_X6_downs h
theorem st_X6_downs_177 {D : Nat} {Q : APost} {ls : AL} {st : List AV} {m : AM} (h : exP (aCC D) D false (AW D 78 Q) Q bX6_downs_177 ls st m) : AW D 78 Q 177 ls st m := AW_step chk_X6_downs h
theorem st_X6_downs_183 {D : Nat} {Q : APost} {ls : AL} {st : List AV} {m : AM} (h : exP (aCC D) D false (AW D 78 Q) Q bX6_downs_183 ls st m) : AW D 78 Q 183 ls st m := AW_step chk_X6_downs h
theorem st_X6_downs_186 {D : Nat} {Q : APost} {ls : AL} {st : List AV} {m : AM} (h : exP (aCC D) D false (AW D 78 Q) Q bX6_downs_186 ls st m) : AW D 78 Q 186 ls st m := AW_step chk_X6_downs h
set_option maxRecDepth 100000 in
theorem chk_X6_agrees : chkM 79 = true := by decide +kernel
set_option maxRecDepth 100000 in
theorem own_X6_agrees : ((mNm 79).cls = cNm (mOwn 79) ∧ plainName (mNm 79).cls = true) ∧ mMax 79 = 3 := by decide +kernel
theorem st_X6_agrees_0 {D : Nat} {Q : APost} {ls : AL} {st : List AV} {m : AM} (h : exP (aCC D) D true (AW D 79 Q) Q bX6_agrees_0 ls st m) : AW D 79 Q 0 ls st m := AW_step chk_X6_agrees h
theorem st_X6_agrees_2 {D : Nat} {Q : APost} {ls : AL} {st : List AV} {m : AM} (h : exP (aCC D) D true (AW D 79 Q) Q bX6_agrees_2 ls st m) : AW D 79 Q 2 ls st m := AW_step chk_X6_agrees h
theorem st_X6_agrees_10 {D : Nat} {Q : APost} {ls : AL} {st : List AV} {m : AM} (h : exP (aCC D) D true (AW D 79 Q) Q bX6_agrees_10 ls st m) : AW D 79 Q 10 ls st m := AW_step chk_X6_agrees h
theorem st_X6_agrees_18 {D : Nat} {Q : APost} {ls : AL} {st : List AV} {m : AM} (h : exP (aCC D) D true (AW D 79 Q) Q bX6_agrees_18 ls st m) : AW D 79 Q 18 ls st m := AW_step chk_X6_agrees h
theorem st_X6_agrees_33 {D : Nat} {Q : APost} {ls : AL} {st : List AV} {m : AM} (h : exP (aCC D) D true (AW D 79 Q) Q bX6_agrees_33 ls st m) : AW D 79 Q 33 ls st m := AW_step chk_X6_agrees h
theorem st_X6_agrees_35 {D : Nat} {Q : APost} {ls : AL} {st : List AV} {m : AM} (h : exP (aCC D) D true (AW D 79 Q) Q bX6_agrees_35 ls st m) : AW D 79 Q 35 ls st m := AW_step chk_X6_agrees h
theorem st_X6_agrees_41 {D : Nat} {Q : APost} {ls : AL} {st : List AV} {m : AM} (h : exP (aCC D) D true (AW D 79 Q) Q bX6_agrees_41 ls st m) : AW D 79 Q 41 ls st m := AW_step chk_X6_agrees h
theorem st_X6_agrees_48 {D : Nat} {Q : APost} {ls : AL} {st : List AV} {m : AM} (h : exP (aCC D) D true (AW D 79 Q) Q bX6_agrees_48 ls st m) : AW D 79 Q 48 ls st m := AW_step chk_X6_agrees h
theorem st_X6_agrees_56 {D : Nat} {Q : APost} {ls : AL} {st : List AV} {m : AM} (h : exP (aCC D) D true (AW D 79 Q) Q bX6_agrees_56 ls st m) : AW D 79 Q 56 ls st m := AW_step chk_X6_agrees h
theorem st_X6_agrees_64 {D : Nat} {Q : APost} {ls : AL} {st : List AV} {m : AM} (h : exP (aCC D) D true (AW D 79 Q) Q bX6_agrees_64 ls st m) : AW D 79 Q 64 ls st m := AW_step chk_X6_agrees h
theorem st_X6_agrees_79 {D : Nat} {Q : APost} {ls : AL} {st : List AV} {m : AM} (h : exP (aCC D) D true (AW D 79 Q) Q bX6_agrees_79 ls st m) : AW D 79 Q 79 ls st m := AW_step chk_X6_agrees h
theorem st_X6_agrees_81 {D : Nat} {Q : APost} {ls : AL} {st : List AV} {m : AM} (h : exP (aCC D) D true (AW D 79 Q) Q bX6_agrees_81 ls st m) : AW D 79 Q 81 ls st m := AW_step chk_X6_agrees h
theorem st_X6_agrees_87 {D : Nat} {Q : APost} {ls : AL} {st : List AV} {m : AM} (h : exP (aCC D) D true (AW D 79 Q) Q bX6_agrees_87 ls st m) : AW D 79 Q 87 ls st m := AW_step chk_X6_agrees h
set_option maxRecDepth 100000 in
theorem chk_X6_weightOf : chkM 80 = true := by decide +kernel
set_option maxRecDepth 100000 in
theorem own_X6_weightOf : ((mNm 80).cls = cNm (mOwn 80) ∧ plainName (mNm 80).cls = true) ∧ mMax 80 = 4 := by decide +kernel
theorem st_X6_weightOf_0 {D : Nat} {Q : APost} {ls : AL} {st : List AV} {m : AM} (h : exP (aCC D) D false (AW D 80 Q) Q bX6_weightOf_0 ls st m) : AW D 80 Q 0 ls st m := AW_step chk_X6_weightOf h
theorem st_X6_weightOf_4 {D : Nat} {Q : APost} {ls : AL} {st : List AV} {m : AM} (h : exP (aCC D) D false (AW D 80 Q) Q bX6_weightOf_4 ls st m) : AW D 80 Q 4 ls st m := AW_step chk_X6_weightOf h
theorem st_X6_weightOf_12 {D : Nat} {Q : APost} {ls : AL} {st : List AV} {m : AM} (h : exP (aCC D) D false (AW D 80 Q) Q bX6_weightOf_12 ls st m) : AW D 80 Q 12 ls st m := AW_step chk_X6_weightOf h
theorem st_X6_weightOf_21 {D : Nat} {Q : APost} {ls : AL} {st : List AV} {m : AM} (h : exP (aCC D) D false (AW D 80 Q) Q bX6_weightOf_21 ls st m) : AW D 80 Q 21 ls st m := AW_step chk_X6_weightOf h
theorem st_X6_weightOf_30 {D : Nat} {Q : APost} {ls : AL} {st : List AV} {m : AM} (h : exP (aCC D) D false (AW D 80 Q) Q bX6_weightOf_30 ls st m) : AW D 80 Q 30 ls st m := AW_step chk_X6_weightOf h
theorem st_X6_weightOf_31 {D : Nat} {Q : APost} {ls : AL} {st : List AV} {m : AM} (h : exP (aCC D) D false (AW D 80 Q) Q bX6_weightOf_31 ls st m) : AW D 80 Q 31 ls st m := AW_step chk_X6_weightOf h
theorem st_X6_weightOf_39 {D : Nat} {Q : APost} {ls : AL} {st : List AV} {m : AM} (h : exP (aCC D) D false (AW D 80 Q) Q bX6_weightOf_39 ls st m) : AW D 80 Q 39 ls st m := AW_step chk_X6_weightOf h
set_option maxRecDepth 100000 in
theorem chk_X6_sizeOf : chkM 81 = true := by decide +kernel
set_option maxRecDepth 100000 in
theorem own_X6_sizeOf : ((mNm 81).cls = cNm (mOwn 81) ∧ plainName (mNm 81).cls = true) ∧ mMax 81 = 3 := by decide +kernel
theorem st_X6_sizeOf_0 {D : Nat} {Q : APost} {ls : AL} {st : List AV} {m : AM} (h : exP (aCC D) D false (AW D 81 Q) Q bX6_sizeOf_0 ls st m) : AW D 81 Q 0 ls st m := AW_step chk_X6_sizeOf h
theorem st_X6_sizeOf_4 {D : Nat} {Q : APost} {ls : AL} {st : List AV} {m : AM} (h : exP (aCC D) D false (AW D 81 Q) Q bX6_sizeOf_4 ls st m) : AW D 81 Q 4 ls st m := AW_step chk_X6_sizeOf h
theorem st_X6_sizeOf_8 {D : Nat} {Q : APost} {ls : AL} {st : List AV} {m : AM} (h : exP (aCC D) D false (AW D 81 Q) Q bX6_sizeOf_8 ls st m) : AW D 81 Q 8 ls st m := AW_step chk_X6_sizeOf h
theorem st_X6_sizeOf_20 {D : Nat} {Q : APost} {ls : AL} {st : List AV} {m : AM} (h : exP (aCC D) D false (AW D 81 Q) Q bX6_sizeOf_20 ls st m) : AW D 81 Q 20 ls st m := AW_step chk_X6_sizeOf h
set_option maxRecDepth 100000 in
theorem chk_X6_works : chkM 82 = true := by decide +kernel
set_option maxRecDepth 100000 in
theorem own_X6_works : ((mNm 82).cls = cNm (mOwn 82) ∧ plainName (mNm 82).cls = true) ∧ mMax 82 = 4 := by decide +kernel
theorem st_X6_works_0 {D : Nat} {Q : APost} {ls : AL} {st : List AV} {m : AM} (h : exP (aCC D) D false (AW D 82 Q) Q bX6_works_0 ls st m) : AW D 82 Q 0 ls st m := AW_step chk_X6_works h
theorem st_X6_works_7 {D : Nat} {Q : APost} {ls : AL} {st : List AV} {m : AM} (h : exP (aCC D) D false (AW D 82 Q) Q bX6_works_7 ls st m) : AW D 82 Q 7 ls st m := AW_step chk_X6_works h
theorem st_X6_works_8 {D : Nat} {Q : APost} {ls : AL} {st : List AV} {m : AM} (h : exP (aCC D) D false (AW D 82 Q) Q bX6_works_8 ls st m) : AW D 82 Q 8 ls st m := AW_step chk_X6_works h
theorem st_X6_works_33 {D : Nat} {Q : APost} {ls : AL} {st : List AV} {m : AM} (h : exP (aCC D) D false (AW D 82 Q) Q bX6_works_33 ls st m) : AW D 82 Q 33 ls st m := AW_step chk_X6_works h
theorem st_X6_works_38 {D : Nat} {Q : APost} {ls : AL} {st : List AV} {m : AM} (h : exP (aCC D) D false (AW D 82 Q) Q bX6_works_38 ls st m) : AW D 82 Q 38 ls st m := AW_step chk_X6_works h
theorem st_X6_works_58 {D : Nat} {Q : APost} {ls : AL} {st : List AV} {m : AM} (h : exP (aCC D) D false (AW D 82 Q) Q bX6_works_58 ls st m) : AW D 82 Q 58 ls st m := AW_step chk_X6_works h
theorem st_X6_works_65 {D : Nat} {Q : APost} {ls : AL} {st : List AV} {m : AM} (h : exP (aCC D) D false (AW D 82 Q) Q bX6_works_65 ls st m) : AW D 82 Q 65 ls st m := AW_step chk_X6_works h
theorem st_X6_works_79 {D : Nat} {Q : APost} {ls : AL} {st : List AV} {m : AM} (h : exP (aCC D) D false (AW D 82 Q) Q bX6_works_79 ls st m) : AW D 82 Q 79 ls st m := AW_step chk_X6_works h
theorem st_X6_works_84 {D : Nat} {Q : APost} {ls : AL} {st : List AV} {m : AM} (h : exP (aCC D) D false (AW D 82 Q) Q bX6_works_84 ls st m) : AW D 82 Q 84 ls st m := AW_step chk_X6_works h
theorem st_X6_works_90 {D : Nat} {Q : APost} {ls : AL} {st : List AV} {m : AM} (h : exP (aCC D) D false (AW D 82 Q) Q bX6_works_90 ls st m) : AW D 82 Q 90 ls st m := AW_step chk_X6_works h
theorem st_X6_works_97 {D : Nat} {Q : APost} {ls : AL} {st : List AV} {m : AM} (h : exP (aCC D) D false (AW D 82 Q) Q bX6_works_97 ls st m) : AW D 82 Q 97 ls st m := AW_step chk_X6_works h
theorem st_X6_works_101 {D : Nat} {Q : APost} {ls : AL} {st : List AV} {m : AM} (h : exP (aCC D) D false (AW D 82 Q) Q bX6_works_101 ls st m) : AW D 82 Q 101 ls st m := AW_step chk_X6_works h
theorem st_X6_works_114 {D : Nat} {Q : APost} {ls : AL} {st : List AV} {m : AM} (h : exP (aCC D) D false (AW D 82 Q) Q bX6_works_114 ls st m) : AW D 82 Q 114 ls st m := AW_step chk_X6_works h
theorem st_X6_works_117 {D : Nat} {Q : APost} {ls : AL} {st : List AV} {m : AM} (h : exP (aCC D) D false (AW D 82 Q) Q bX6_works_117 ls st m) : AW D 82 Q 117 ls st m := AW_step chk_X6_works h
theorem st_X6_works_136 {D : Nat} {Q : APost} {ls : AL} {st : List AV} {m : AM} (h : exP (aCC D) D false (AW D 82 Q) Q bX6_works_136 ls st m) : AW D 82 Q 136 ls st m := AW_step chk_X6_works h
theorem st_X6_works_140 {D : Nat} {Q : APost} {ls : AL} {st : List AV} {m : AM} (h : exP (aCC D) D false (AW D 82 Q) Q bX6_works_140 ls st m) : AW D 82 Q 140 ls st m := AW_step chk_X6_works h
theorem st_X6_works_154 {D : Nat} {Q : APost} {ls : AL} {st : List AV} {m : AM} (h : exP (aCC D) D false (AW D 82 Q) Q bX6_works_154 ls st m) : AW D 82 Q 154 ls st m := AW_step chk_X6_works h
theorem st_X6_works_159 {D : Nat} {Q : APost} {ls : AL} {st : List AV} {m : AM} (h : exP (aCC D) D false (AW D 82 Q) Q bX6_works_159 ls st m) : AW D 82 Q 159 ls st m := AW_step chk_X6_works h
theorem st_X6_works_165 {D : Nat} {Q : APost} {ls : AL} {st : List AV} {m : AM} (h : exP (aCC D) D false (AW D 82 Q) Q bX6_works_165 ls st m) : AW D 82 Q 165 ls st m := AW_step chk_X6_works h
set_option maxRecDepth 100000 in
theorem chk_X6_isSet : chkM 83 = true := by decide +kernel
set_option maxRecDepth 100000 in
theorem own_X6_isSet : ((mNm 83).cls = cNm (mOwn 83) ∧ plainName (mNm 83).cls = true) ∧ mMax 83 = 2 := by decide +kernel
theorem st_X6_isSet_0 {D : Nat} {Q : APost} {ls : AL} {st : List AV} {m : AM} (h : exP (aCC D) D true (AW D 83 Q) Q bX6_isSet_0 ls st m) : AW D 83 Q 0 ls st m := AW_step chk_X6_isSet h
set_option maxRecDepth 100000 in
theorem chk_X6_agree : chkM 84 = true := by decide +kernel
set_option maxRecDepth 100000 in
theorem own_X6_agree : ((mNm 84).cls = cNm (mOwn 84) ∧ plainName (mNm 84).cls = true) ∧ mMax 84 = 2 := by decide +kernel
theorem st_X6_agree_0 {D : Nat} {Q : APost} {ls : AL} {st : List AV} {m : AM} (h : exP (aCC D) D false (AW D 84 Q) Q bX6_agree_0 ls st m) : AW D 84 Q 0 ls st m := AW_step chk_X6_agree h
theorem st_X6_agree_8 {D : Nat} {Q : APost} {ls : AL} {st : List AV} {m : AM} (h : exP (aCC D) D false (AW D 84 Q) Q bX6_agree_8 ls st m) : AW D 84 Q 8 ls st m := AW_step chk_X6_agree h
theorem st_X6_agree_10 {D : Nat} {Q : APost} {ls : AL} {st : List AV} {m : AM} (h : exP (aCC D) D false (AW D 84 Q) Q bX6_agree_10 ls st m) : AW D 84 Q 10 ls st m := AW_step chk_X6_agree h
theorem st_X6_agree_23 {D : Nat} {Q : APost} {ls : AL} {st : List AV} {m : AM} (h : exP (aCC D) D false (AW D 84 Q) Q bX6_agree_23 ls st m) : AW D 84 Q 23 ls st m := AW_step chk_X6_agree h
theorem st_X6_agree_27 {D : Nat} {Q : APost} {ls : AL} {st : List AV} {m : AM} (h : exP (aCC D) D false (AW D 84 Q) Q bX6_agree_27 ls st m) : AW D 84 Q 27 ls st m := AW_step chk_X6_agree h
theorem st_X6_agree_28 {D : Nat} {Q : APost} {ls : AL} {st : List AV} {m : AM} (h : exP (aCC D) D false (AW D 84 Q) Q bX6_agree_28 ls st m) : AW D 84 Q 28 ls st m := AW_step chk_X6_agree h
set_option maxRecDepth 100000 in
theorem chk_X6_forged : chkM 85 = true := by decide +kernel
set_option maxRecDepth 100000 in
theorem own_X6_forged : ((mNm 85).cls = cNm (mOwn 85) ∧ plainName (mNm 85).cls = true) ∧ mMax 85 = 1 := by decide +kernel
theorem st_X6_forged_0 {D : Nat} {Q : APost} {ls : AL} {st : List AV} {m : AM} (h : exP (aCC D) D false (AW D 85 Q) Q bX6_forged_0 ls st m) : AW D 85 Q 0 ls st m := AW_step chk_X6_forged h
set_option maxRecDepth 100000 in
theorem chk_X6_weight : chkM 86 = true := by decide +kernel
set_option maxRecDepth 100000 in
theorem own_X6_weight : ((mNm 86).cls = cNm (mOwn 86) ∧ plainName (mNm 86).cls = true) ∧ mMax 86 = 2 := by decide +kernel
theorem st_X6_weight_0 {D : Nat} {Q : APost} {ls : AL} {st : List AV} {m : AM} (h : exP (aCC D) D false (AW D 86 Q) Q bX6_weight_0 ls st m) : AW D 86 Q 0 ls st m := AW_step chk_X6_weight h
theorem st_X6_weight_8 {D : Nat} {Q : APost} {ls : AL} {st : List AV} {m : AM} (h : exP (aCC D) D false (AW D 86 Q) Q bX6_weight_8 ls st m) : AW D 86 Q 8 ls st m := AW_step chk_X6_weight h
theorem st_X6_weight_16 {D : Nat} {Q : APost} {ls : AL} {st : List AV} {m : AM} (h : exP (aCC D) D false (AW D 86 Q) Q bX6_weight_16 ls st m) : AW D 86 Q 16 ls st m := AW_step chk_X6_weight h
theorem st_X6_weight_17 {D : Nat} {Q : APost} {ls : AL} {st : List AV} {m : AM} (h : exP (aCC D) D false (AW D 86 Q) Q bX6_weight_17 ls st m) : AW D 86 Q 17 ls st m := AW_step chk_X6_weight h
set_option maxRecDepth 100000 in
theorem chk_X6_isTrue : chkM 87 = true := by decide +kernel
set_option maxRecDepth 100000 in
theorem own_X6_isTrue : ((mNm 87).cls = cNm (mOwn 87) ∧ plainName (mNm 87).cls = true) ∧ mMax 87 = 2 := by decide +kernel
theorem st_X6_isTrue_0 {D : Nat} {Q : APost} {ls : AL} {st : List AV} {m : AM} (h : exP (aCC D) D true (AW D 87 Q) Q bX6_isTrue_0 ls st m) : AW D 87 Q 0 ls st m := AW_step chk_X6_isTrue h
theorem st_X6_isTrue_15 {D : Nat} {Q : APost} {ls : AL} {st : List AV} {m : AM} (h : exP (aCC D) D true (AW D 87 Q) Q bX6_isTrue_15 ls st m) : AW D 87 Q 15 ls st m := AW_step chk_X6_isTrue h
theorem st_X6_isTrue_19 {D : Nat} {Q : APost} {ls : AL} {st : List AV} {m : AM} (h : exP (aCC D) D true (AW D 87 Q) Q bX6_isTrue_19 ls st m) : AW D 87 Q 19 ls st m := AW_step chk_X6_isTrue h
theorem st_X6_isTrue_20 {D : Nat} {Q : APost} {ls : AL} {st : List AV} {m : AM} (h : exP (aCC D) D true (AW D 87 Q) Q bX6_isTrue_20 ls st m) : AW D 87 Q 20 ls st m := AW_step chk_X6_isTrue h
set_option maxRecDepth 100000 in
theorem chk_X6_year : chkM 88 = true := by decide +kernel
set_option maxRecDepth 100000 in
theorem own_X6_year : ((mNm 88).cls = cNm (mOwn 88) ∧ plainName (mNm 88).cls = true) ∧ mMax 88 = 3 := by decide +kernel
theorem st_X6_year_0 {D : Nat} {Q : APost} {ls : AL} {st : List AV} {m : AM} (h : exP (aCC D) D false (AW D 88 Q) Q bX6_year_0 ls st m) : AW D 88 Q 0 ls st m := AW_step chk_X6_year h
theorem st_X6_year_8 {D : Nat} {Q : APost} {ls : AL} {st : List AV} {m : AM} (h : exP (aCC D) D false (AW D 88 Q) Q bX6_year_8 ls st m) : AW D 88 Q 8 ls st m := AW_step chk_X6_year h
theorem st_X6_year_17 {D : Nat} {Q : APost} {ls : AL} {st : List AV} {m : AM} (h : exP (aCC D) D false (AW D 88 Q) Q bX6_year_17 ls st m) : AW D 88 Q 17 ls st m := AW_step chk_X6_year h
theorem st_X6_year_25 {D : Nat} {Q : APost} {ls : AL} {st : List AV} {m : AM} (h : exP (aCC D) D false (AW D 88 Q) Q bX6_year_25 ls st m) : AW D 88 Q 25 ls st m := AW_step chk_X6_year h
theorem st_X6_year_29 {D : Nat} {Q : APost} {ls : AL} {st : List AV} {m : AM} (h : exP (aCC D) D false (AW D 88 Q) Q bX6_year_29 ls st m) : AW D 88 Q 29 ls st m := AW_step chk_X6_year h
theorem st_X6_year_33 {D : Nat} {Q : APost} {ls : AL} {st : List AV} {m : AM} (h : exP (aCC D) D false (AW D 88 Q) Q bX6_year_33 ls st m) : AW D 88 Q 33 ls st m := AW_step chk_X6_year h
theorem st_X6_year_42 {D : Nat} {Q : APost} {ls : AL} {st : List AV} {m : AM} (h : exP (aCC D) D false (AW D 88 Q) Q bX6_year_42 ls st m) : AW D 88 Q 42 ls st m := AW_step chk_X6_year h
theorem st_X6_year_48 {D : Nat} {Q : APost} {ls : AL} {st : List AV} {m : AM} (h : exP (aCC D) D false (AW D 88 Q) Q bX6_year_48 ls st m) : AW D 88 Q 48 ls st m := AW_step chk_X6_year h
set_option maxRecDepth 100000 in
theorem chk_X6_quarrel : chkM 89 = true := by decide +kernel
set_option maxRecDepth 100000 in
theorem own_X6_quarrel : ((mNm 89).cls = cNm (mOwn 89) ∧ plainName (mNm 89).cls = true) ∧ mMax 89 = 1 := by decide +kernel
theorem st_X6_quarrel_0 {D : Nat} {Q : APost} {ls : AL} {st : List AV} {m : AM} (h : exP (aCC D) D false (AW D 89 Q) Q bX6_quarrel_0 ls st m) : AW D 89 Q 0 ls st m := AW_step chk_X6_quarrel h
set_option maxRecDepth 100000 in
theorem chk_X6_sure : chkM 90 = true := by decide +kernel
set_option maxRecDepth 100000 in
theorem own_X6_sure : ((mNm 90).cls = cNm (mOwn 90) ∧ plainName (mNm 90).cls = true) ∧ mMax 90 = 6 := by decide +kernel
theorem st_X6_sure_0 {D : Nat} {Q : APost} {ls : AL} {st : List AV} {m : AM} (h : exP (aCC D) D false (AW D 90 Q) Q bX6_sure_0 ls st m) : AW D 90 Q 0 ls st m := AW_step chk_X6_sure h
theorem st_X6_sure_14 {D : Nat} {Q : APost} {ls : AL} {st : List AV} {m : AM} (h : exP (aCC D) D false (AW D 90 Q) Q bX6_sure_14 ls st m) : AW D 90 Q 14 ls st m := AW_step chk_X6_sure h
theorem st_X6_sure_23 {D : Nat} {Q : APost} {ls : AL} {st : List AV} {m : AM} (h : exP (aCC D) D false (AW D 90 Q) Q bX6_sure_23 ls st m) : AW D 90 Q 23 ls st m := AW_step chk_X6_sure h
theorem st_X6_sure_25 {D : Nat} {Q : APost} {ls : AL} {st : List AV} {m : AM} (h : exP (aCC D) D false (AW D 90 Q) Q bX6_sure_25 ls st m) : AW D 90 Q 25 ls st m := AW_step chk_X6_sure h
theorem st_X6_sure_33 {D : Nat} {Q : APost} {ls : AL} {st : List AV} {m : AM} (h : exP (aCC D) D false (AW D 90 Q) Q bX6_sure_33 ls st m) : AW D 90 Q 33 ls st m := AW_step chk_X6_sure h
theorem st_X6_sure_42 {D : Nat} {Q : APost} {ls : AL} {st : List AV} {m : AM} (h : exP (aCC D) D false (AW D 90 Q) Q bX6_sure_42 ls st m) : AW D 90 Q 42 ls st m := AW_step chk_X6_sure h
theorem st_X6_sure_51 {D : Nat} {Q : APost} {ls : AL} {st : List AV} {m : AM} (h : exP (aCC D) D false (AW D 90 Q) Q bX6_sure_51 ls st m) : AW D 90 Q 51 ls st m := AW_step chk_X6_sure h
theorem st_X6_sure_62 {D : Nat} {Q : APost} {ls : AL} {st : List AV} {m : AM} (h : exP (aCC D) D false (AW D 90 Q) Q bX6_sure_62 ls st m) : AW D 90 Q 62 ls st m := AW_step chk_X6_sure h
theorem st_X6_sure_65 {D : Nat} {Q : APost} {ls : AL} {st : List AV} {m : AM} (h : exP (aCC D) D false (AW D 90 Q) Q bX6_sure_65 ls st m) : AW D 90 Q 65 ls st m := AW_step chk_X6_sure h
theorem st_X6_sure_70 {D : Nat} {Q : APost} {ls : AL} {st : List AV} {m : AM} (h : exP (aCC D) D false (AW D 90 Q) Q bX6_sure_70 ls st m) : AW D 90 Q 70 ls st m := AW_step chk_X6_sure h
theorem st_X6_sure_81 {D : Nat} {Q : APost} {ls : AL} {st : List AV} {m : AM} (h : exP (aCC D) D false (AW D 90 Q) Q bX6_sure_81 ls st m) : AW D 90 Q 81 ls st m := AW_step chk_X6_sure h
theorem st_X6_sure_91 {D : Nat} {Q : APost} {ls : AL} {st : List AV} {m : AM} (h : exP (aCC D) D false (AW D 90 Q) Q bX6_sure_91 ls st m) : AW D 90 Q 91 ls st m := AW_step chk_X6_sure h
theorem st_X6_sure_92 {D : Nat} {Q : APost} {ls : AL} {st : List AV} {m : AM} (h : exP (aCC D) D false (AW D 90 Q) Q bX6_sure_92 ls st m) : AW D 90 Q 92 ls st m := AW_step chk_X6_sure h
theorem st_X6_sure_99 {D : Nat} {Q : APost} {ls : AL} {st : List AV} {m : AM} (h : exP (aCC D) D false (AW D 90 Q) Q bX6_sure_99 ls st m) : AW D 90 Q 99 ls st m := AW_step chk_X6_sure h
theorem st_X6_sure_111 {D : Nat} {Q : APost} {ls : AL} {st : List AV} {m : AM} (h : exP (aCC D) D false (AW D 90 Q) Q bX6_sure_111 ls st m) : AW D 90 Q 111 ls st m := AW_step chk_X6_sure h
theorem st_X6_sure_121 {D : Nat} {Q : APost} {ls : AL} {st : List AV} {m : AM} (h : exP (aCC D) D false (AW D 90 Q) Q bX6_sure_121 ls st m) : AW D 90 Q 121 ls st m := AW_step chk_X6_sure h
theorem st_X6_sure_123 {D : Nat} {Q : APost} {ls : AL} {st : List AV} {m : AM} (h : exP (aCC D) D false (AW D 90 Q) Q bX6_sure_123 ls st m) : AW D 90 Q 123 ls st m := AW_step chk_X6_sure h
theorem st_X6_sure_125 {D : Nat} {Q : APost} {ls : AL} {st : List AV} {m : AM} (h : exP (aCC D) D false (AW D 90 Q) Q bX6_sure_125 ls st m) : AW D 90 Q 125 ls st m := AW_step chk_X6_sure h
theorem st_X6_sure_131 {D : Nat} {Q : APost} {ls : AL} {st : List AV} {m : AM} (h : exP (aCC D) D false (AW D 90 Q) Q bX6_sure_131 ls st m) : AW D 90 Q 131 ls st m := AW_step chk_X6_sure h
theorem st_X6_sure_136 {D : Nat} {Q : APost} {ls : AL} {st : List AV} {m : AM} (h : exP (aCC D) D false (AW D 90 Q) Q bX6_sure_136 ls st m) : AW D 90 Q 136 ls st m := AW_step chk_X6_sure h
theorem st_X6_sure_142 {D : Nat} {Q : APost} {ls : AL} {st : List AV} {m : AM} (h : exP (aCC D) D false (AW D 90 Q) Q bX6_sure_142 ls st m) : AW D 90 Q 142 ls st m := AW_step chk_X6_sure h
theorem st_X6_sure_146 {D : Nat} {Q : APost} {ls : AL} {st : List AV} {m : AM} (h : exP (aCC D) D false (AW D 90 Q) Q bX6_sure_146 ls st m) : AW D 90 Q 146 ls st m := AW_step chk_X6_sure h
theorem st_X6_sure_150 {D : Nat} {Q : APost} {ls : AL} {st : List AV} {m : AM} (h : exP (aCC D) D false (AW D 90 Q) Q bX6_sure_150 ls st m) : AW D 90 Q 150 ls st m := AW_step chk_X6_sure h
theorem st_X6_sure_154 {D : Nat} {Q : APost} {ls : AL} {st : List AV} {m : AM} (h : exP (aCC D) D false (AW D 90 Q) Q bX6_sure_154 ls st m) : AW D 90 Q 154 ls st m := AW_step chk_X6_sure h
theorem st_X6_sure_156 {D : Nat} {Q : APost} {ls : AL} {st : List AV} {m : AM} (h : exP (aCC D) D false (AW D 90 Q) Q bX6_sure_156 ls st m) : AW D 90 Q 156 ls st m := AW_step chk_X6_sure h
set_option maxRecDepth 100000 in
theorem chk_X6_push : chkM 91 = true := by decide +kernel
set_option maxRecDepth 100000 in
theorem own_X6_push : ((mNm 91).cls = cNm (mOwn 91) ∧ plainName (mNm 91).cls = true) ∧ mMax 91 = 3 := by decide +kernel
theorem st_X6_push_0 {D : Nat} {Q : APost} {ls : AL} {st : List AV} {m : AM} (h : exP (aCC D) D false (AW D 91 Q) Q bX6_push_0 ls st m) : AW D 91 Q 0 ls st m := AW_step chk_X6_push h
theorem st_X6_push_3 {D : Nat} {Q : APost} {ls : AL} {st : List AV} {m : AM} (h : exP (aCC D) D false (AW D 91 Q) Q bX6_push_3 ls st m) : AW D 91 Q 3 ls st m := AW_step chk_X6_push h
theorem st_X6_push_7 {D : Nat} {Q : APost} {ls : AL} {st : List AV} {m : AM} (h : exP (aCC D) D false (AW D 91 Q) Q bX6_push_7 ls st m) : AW D 91 Q 7 ls st m := AW_step chk_X6_push h
theorem st_X6_push_36 {D : Nat} {Q : APost} {ls : AL} {st : List AV} {m : AM} (h : exP (aCC D) D false (AW D 91 Q) Q bX6_push_36 ls st m) : AW D 91 Q 36 ls st m := AW_step chk_X6_push h
set_option maxRecDepth 100000 in
theorem chk_X6_feed : chkM 92 = true := by decide +kernel
set_option maxRecDepth 100000 in
theorem own_X6_feed : ((mNm 92).cls = cNm (mOwn 92) ∧ plainName (mNm 92).cls = true) ∧ mMax 92 = 6 := by decide +kernel
theorem st_X6_feed_0 {D : Nat} {Q : APost} {ls : AL} {st : List AV} {m : AM} (h : exP (aCC D) D false (AW D 92 Q) Q bX6_feed_0 ls st m) : AW D 92 Q 0 ls st m := AW_step chk_X6_feed h
theorem st_X6_feed_12 {D : Nat} {Q : APost} {ls : AL} {st : List AV} {m : AM} (h : exP (aCC D) D false (AW D 92 Q) Q bX6_feed_12 ls st m) : AW D 92 Q 12 ls st m := AW_step chk_X6_feed h
theorem st_X6_feed_14 {D : Nat} {Q : APost} {ls : AL} {st : List AV} {m : AM} (h : exP (aCC D) D false (AW D 92 Q) Q bX6_feed_14 ls st m) : AW D 92 Q 14 ls st m := AW_step chk_X6_feed h
set_option maxRecDepth 100000 in
theorem chk_X6_words : chkM 93 = true := by decide +kernel
set_option maxRecDepth 100000 in
theorem own_X6_words : ((mNm 93).cls = cNm (mOwn 93) ∧ plainName (mNm 93).cls = true) ∧ mMax 93 = 4 := by decide +kernel
theorem st_X6_words_0 {D : Nat} {Q : APost} {ls : AL} {st : List AV} {m : AM} (h : exP (aCC D) D true (AW D 93 Q) Q bX6_words_0 ls st m) : AW D 93 Q 0 ls st m := AW_step chk_X6_words h
theorem st_X6_words_8 {D : Nat} {Q : APost} {ls : AL} {st : List AV} {m : AM} (h : exP (aCC D) D true (AW D 93 Q) Q bX6_words_8 ls st m) : AW D 93 Q 8 ls st m := AW_step chk_X6_words h
theorem st_X6_words_18 {D : Nat} {Q : APost} {ls : AL} {st : List AV} {m : AM} (h : exP (aCC D) D true (AW D 93 Q) Q bX6_words_18 ls st m) : AW D 93 Q 18 ls st m := AW_step chk_X6_words h
theorem st_X6_words_26 {D : Nat} {Q : APost} {ls : AL} {st : List AV} {m : AM} (h : exP (aCC D) D true (AW D 93 Q) Q bX6_words_26 ls st m) : AW D 93 Q 26 ls st m := AW_step chk_X6_words h
theorem st_X6_words_28 {D : Nat} {Q : APost} {ls : AL} {st : List AV} {m : AM} (h : exP (aCC D) D true (AW D 93 Q) Q bX6_words_28 ls st m) : AW D 93 Q 28 ls st m := AW_step chk_X6_words h
theorem st_X6_words_35 {D : Nat} {Q : APost} {ls : AL} {st : List AV} {m : AM} (h : exP (aCC D) D true (AW D 93 Q) Q bX6_words_35 ls st m) : AW D 93 Q 35 ls st m := AW_step chk_X6_words h
theorem st_X6_words_40 {D : Nat} {Q : APost} {ls : AL} {st : List AV} {m : AM} (h : exP (aCC D) D true (AW D 93 Q) Q bX6_words_40 ls st m) : AW D 93 Q 40 ls st m := AW_step chk_X6_words h
theorem st_X6_words_56 {D : Nat} {Q : APost} {ls : AL} {st : List AV} {m : AM} (h : exP (aCC D) D true (AW D 93 Q) Q bX6_words_56 ls st m) : AW D 93 Q 56 ls st m := AW_step chk_X6_words h
theorem st_X6_words_58 {D : Nat} {Q : APost} {ls : AL} {st : List AV} {m : AM} (h : exP (aCC D) D true (AW D 93 Q) Q bX6_words_58 ls st m) : AW D 93 Q 58 ls st m := AW_step chk_X6_words h
theorem st_X6_words_64 {D : Nat} {Q : APost} {ls : AL} {st : List AV} {m : AM} (h : exP (aCC D) D true (AW D 93 Q) Q bX6_words_64 ls st m) : AW D 93 Q 64 ls st m := AW_step chk_X6_words h
theorem st_X6_words_73 {D : Nat} {Q : APost} {ls : AL} {st : List AV} {m : AM} (h : exP (aCC D) D true (AW D 93 Q) Q bX6_words_73 ls st m) : AW D 93 Q 73 ls st m := AW_step chk_X6_words h
theorem st_X6_words_78 {D : Nat} {Q : APost} {ls : AL} {st : List AV} {m : AM} (h : exP (aCC D) D true (AW D 93 Q) Q bX6_words_78 ls st m) : AW D 93 Q 78 ls st m := AW_step chk_X6_words h
theorem st_X6_words_101 {D : Nat} {Q : APost} {ls : AL} {st : List AV} {m : AM} (h : exP (aCC D) D true (AW D 93 Q) Q bX6_words_101 ls st m) : AW D 93 Q 101 ls st m := AW_step chk_X6_words h
set_option maxRecDepth 100000 in
theorem chk_X6_alike : chkM 94 = true := by decide +kernel
set_option maxRecDepth 100000 in
theorem own_X6_alike : ((mNm 94).cls = cNm (mOwn 94) ∧ plainName (mNm 94).cls = true) ∧ mMax 94 = 6 := by decide +kernel
theorem st_X6_alike_0 {D : Nat} {Q : APost} {ls : AL} {st : List AV} {m : AM} (h : exP (aCC D) D false (AW D 94 Q) Q bX6_alike_0 ls st m) : AW D 94 Q 0 ls st m := AW_step chk_X6_alike h
theorem st_X6_alike_3 {D : Nat} {Q : APost} {ls : AL} {st : List AV} {m : AM} (h : exP (aCC D) D false (AW D 94 Q) Q bX6_alike_3 ls st m) : AW D 94 Q 3 ls st m := AW_step chk_X6_alike h
theorem st_X6_alike_16 {D : Nat} {Q : APost} {ls : AL} {st : List AV} {m : AM} (h : exP (aCC D) D false (AW D 94 Q) Q bX6_alike_16 ls st m) : AW D 94 Q 16 ls st m := AW_step chk_X6_alike h
theorem st_X6_alike_30 {D : Nat} {Q : APost} {ls : AL} {st : List AV} {m : AM} (h : exP (aCC D) D false (AW D 94 Q) Q bX6_alike_30 ls st m) : AW D 94 Q 30 ls st m := AW_step chk_X6_alike h
theorem st_X6_alike_62 {D : Nat} {Q : APost} {ls : AL} {st : List AV} {m : AM} (h : exP (aCC D) D false (AW D 94 Q) Q bX6_alike_62 ls st m) : AW D 94 Q 62 ls st m := AW_step chk_X6_alike h
theorem st_X6_alike_68 {D : Nat} {Q : APost} {ls : AL} {st : List AV} {m : AM} (h : exP (aCC D) D false (AW D 94 Q) Q bX6_alike_68 ls st m) : AW D 94 Q 68 ls st m := AW_step chk_X6_alike h
set_option maxRecDepth 100000 in
theorem chk_X6_model : chkM 95 = true := by decide +kernel
set_option maxRecDepth 100000 in
theorem own_X6_model : ((mNm 95).cls = cNm (mOwn 95) ∧ plainName (mNm 95).cls = true) ∧ mMax 95 = 11 := by decide +kernel
theorem st_X6_model_0 {D : Nat} {Q : APost} {ls : AL} {st : List AV} {m : AM} (h : exP (aCC D) D false (AW D 95 Q) Q bX6_model_0 ls st m) : AW D 95 Q 0 ls st m := AW_step chk_X6_model h
theorem st_X6_model_8 {D : Nat} {Q : APost} {ls : AL} {st : List AV} {m : AM} (h : exP (aCC D) D false (AW D 95 Q) Q bX6_model_8 ls st m) : AW D 95 Q 8 ls st m := AW_step chk_X6_model h
theorem st_X6_model_17 {D : Nat} {Q : APost} {ls : AL} {st : List AV} {m : AM} (h : exP (aCC D) D false (AW D 95 Q) Q bX6_model_17 ls st m) : AW D 95 Q 17 ls st m := AW_step chk_X6_model h
theorem st_X6_model_19 {D : Nat} {Q : APost} {ls : AL} {st : List AV} {m : AM} (h : exP (aCC D) D false (AW D 95 Q) Q bX6_model_19 ls st m) : AW D 95 Q 19 ls st m := AW_step chk_X6_model h
theorem st_X6_model_33 {D : Nat} {Q : APost} {ls : AL} {st : List AV} {m : AM} (h : exP (aCC D) D false (AW D 95 Q) Q bX6_model_33 ls st m) : AW D 95 Q 33 ls st m := AW_step chk_X6_model h
theorem st_X6_model_42 {D : Nat} {Q : APost} {ls : AL} {st : List AV} {m : AM} (h : exP (aCC D) D false (AW D 95 Q) Q bX6_model_42 ls st m) : AW D 95 Q 42 ls st m := AW_step chk_X6_model h
theorem st_X6_model_45 {D : Nat} {Q : APost} {ls : AL} {st : List AV} {m : AM} (h : exP (aCC D) D false (AW D 95 Q) Q bX6_model_45 ls st m) : AW D 95 Q 45 ls st m := AW_step chk_X6_model h
theorem st_X6_model_56 {D : Nat} {Q : APost} {ls : AL} {st : List AV} {m : AM} (h : exP (aCC D) D false (AW D 95 Q) Q bX6_model_56 ls st m) : AW D 95 Q 56 ls st m := AW_step chk_X6_model h
theorem st_X6_model_62 {D : Nat} {Q : APost} {ls : AL} {st : List AV} {m : AM} (h : exP (aCC D) D false (AW D 95 Q) Q bX6_model_62 ls st m) : AW D 95 Q 62 ls st m := AW_step chk_X6_model h
theorem st_X6_model_65 {D : Nat} {Q : APost} {ls : AL} {st : List AV} {m : AM} (h : exP (aCC D) D false (AW D 95 Q) Q bX6_model_65 ls st m) : AW D 95 Q 65 ls st m := AW_step chk_X6_model h
theorem st_X6_model_77 {D : Nat} {Q : APost} {ls : AL} {st : List AV} {m : AM} (h : exP (aCC D) D false (AW D 95 Q) Q bX6_model_77 ls st m) : AW D 95 Q 77 ls st m := AW_step chk_X6_model h
theorem st_X6_model_96 {D : Nat} {Q : APost} {ls : AL} {st : List AV} {m : AM} (h : exP (aCC D) D false (AW D 95 Q) Q bX6_model_96 ls st m) : AW D 95 Q 96 ls st m := AW_step chk_X6_model h
theorem st_X6_model_99 {D : Nat} {Q : APost} {ls : AL} {st : List AV} {m : AM} (h : exP (aCC D) D false (AW D 95 Q) Q bX6_model_99 ls st m) : AW D 95 Q 99 ls st m := AW_step chk_X6_model h
theorem st_X6_model_114 {D : Nat} {Q : APost} {ls : AL} {st : List AV} {m : AM} (h : exP (aCC D) D false (AW D 95 Q) Q bX6_model_114 ls st m) : AW D 95 Q 114 ls st m := AW_step chk_X6_model h
theorem st_X6_model_120 {D : Nat} {Q : APost} {ls : AL} {st : List AV} {m : AM} (h : exP (aCC D) D false (AW D 95 Q) Q bX6_model_120 ls st m) : AW D 95 Q 120 ls st m := AW_step chk_X6_model h
theorem st_X6_model_126 {D : Nat} {Q : APost} {ls : AL} {st : List AV} {m : AM} (h : exP (aCC D) D false (AW D 95 Q) Q bX6_model_126 ls st m) : AW D 95 Q 126 ls st m := AW_step chk_X6_model h
theorem st_X6_model_132 {D : Nat} {Q : APost} {ls : AL} {st : List AV} {m : AM} (h : exP (aCC D) D false (AW D 95 Q) Q bX6_model_132 ls st m) : AW D 95 Q 132 ls st m := AW_step chk_X6_model h
theorem st_X6_model_138 {D : Nat} {Q : APost} {ls : AL} {st : List AV} {m : AM} (h : exP (aCC D) D false (AW D 95 Q) Q bX6_model_138 ls st m) : AW D 95 Q 138 ls st m := AW_step chk_X6_model h
theorem st_X6_model_140 {D : Nat} {Q : APost} {ls : AL} {st : List AV} {m : AM} (h : exP (aCC D) D false (AW D 95 Q) Q bX6_model_140 ls st m) : AW D 95 Q 140 ls st m := AW_step chk_X6_model h
theorem st_X6_model_144 {D : Nat} {Q : APost} {ls : AL} {st : List AV} {m : AM} (h : exP (aCC D) D false (AW D 95 Q) Q bX6_model_144 ls st m) : AW D 95 Q 144 ls st m := AW_step chk_X6_model h
theorem st_X6_model_149 {D : Nat} {Q : APost} {ls : AL} {st : List AV} {m : AM} (h : exP (aCC D) D false (AW D 95 Q) Q bX6_model_149 ls st m) : AW D 95 Q 149 ls st m := AW_step chk_X6_model h
theorem st_X6_model_154 {D : Nat} {Q : APost} {ls : AL} {st : List AV} {m : AM} (h : exP (aCC D) D false (AW D 95 Q) Q bX6_model_154 ls st m) : AW D 95 Q 154 ls st m := AW_step chk_X6_model h
theorem st_X6_model_158 {D : Nat} {Q : APost} {ls : AL} {st : List AV} {m : AM} (h : exP (aCC D) D false (AW D 95 Q) Q bX6_model_158 ls st m) : AW D 95 Q 158 ls st m := AW_step chk_X6_model h
theorem st_X6_model_163 {D : Nat} {Q : APost} {ls : AL} {st : List AV} {m : AM} (h : exP (aCC D) D false (AW D 95 Q) Q bX6_model_163 ls st m) : AW D 95 Q 163 ls st m := AW_step chk_X6_model h
theorem st_X6_model_168 {D : Nat} {Q : APost} {ls : AL} {st : List AV} {m : AM} (h : exP (aCC D) D false (AW D 95 Q) Q bX6_model_168 ls st m) : AW D 95 Q 168 ls st m := AW_step chk_X6_model h
theorem st_X6_model_170 {D : Nat} {Q : APost} {ls : AL} {st : List AV} {m : AM} (h : exP (aCC D) D false (AW D 95 Q) Q bX6_model_170 ls st m) : AW D 95 Q 170 ls st m := AW_step chk_X6_model h
set_option maxRecDepth 100000 in
theorem chk_X6_claim : chkM 96 = true := by decide +kernel
set_option maxRecDepth 100000 in
theorem own_X6_claim : ((mNm 96).cls = cNm (mOwn 96) ∧ plainName (mNm 96).cls = true) ∧ mMax 96 = 4 := by decide +kernel
theorem st_X6_claim_0 {D : Nat} {Q : APost} {ls : AL} {st : List AV} {m : AM} (h : exP (aCC D) D true (AW D 96 Q) Q bX6_claim_0 ls st m) : AW D 96 Q 0 ls st m := AW_step chk_X6_claim h
theorem st_X6_claim_8 {D : Nat} {Q : APost} {ls : AL} {st : List AV} {m : AM} (h : exP (aCC D) D true (AW D 96 Q) Q bX6_claim_8 ls st m) : AW D 96 Q 8 ls st m := AW_step chk_X6_claim h
theorem st_X6_claim_17 {D : Nat} {Q : APost} {ls : AL} {st : List AV} {m : AM} (h : exP (aCC D) D true (AW D 96 Q) Q bX6_claim_17 ls st m) : AW D 96 Q 17 ls st m := AW_step chk_X6_claim h
theorem st_X6_claim_28 {D : Nat} {Q : APost} {ls : AL} {st : List AV} {m : AM} (h : exP (aCC D) D true (AW D 96 Q) Q bX6_claim_28 ls st m) : AW D 96 Q 28 ls st m := AW_step chk_X6_claim h
theorem st_X6_claim_30 {D : Nat} {Q : APost} {ls : AL} {st : List AV} {m : AM} (h : exP (aCC D) D true (AW D 96 Q) Q bX6_claim_30 ls st m) : AW D 96 Q 30 ls st m := AW_step chk_X6_claim h
set_option maxRecDepth 100000 in
theorem chk_X6_both : chkM 97 = true := by decide +kernel
set_option maxRecDepth 100000 in
theorem own_X6_both : ((mNm 97).cls = cNm (mOwn 97) ∧ plainName (mNm 97).cls = true) ∧ mMax 97 = 3 := by decide +kernel
theorem st_X6_both_0 {D : Nat} {Q : APost} {ls : AL} {st : List AV} {m : AM} (h : exP (aCC D) D false (AW D 97 Q) Q bX6_both_0 ls st m) : AW D 97 Q 0 ls st m := AW_step chk_X6_both h
theorem st_X6_both_10 {D : Nat} {Q : APost} {ls : AL} {st : List AV} {m : AM} (h : exP (aCC D) D false (AW D 97 Q) Q bX6_both_10 ls st m) : AW D 97 Q 10 ls st m := AW_step chk_X6_both h
theorem st_X6_both_20 {D : Nat} {Q : APost} {ls : AL} {st : List AV} {m : AM} (h : exP (aCC D) D false (AW D 97 Q) Q bX6_both_20 ls st m) : AW D 97 Q 20 ls st m := AW_step chk_X6_both h
theorem st_X6_both_35 {D : Nat} {Q : APost} {ls : AL} {st : List AV} {m : AM} (h : exP (aCC D) D false (AW D 97 Q) Q bX6_both_35 ls st m) : AW D 97 Q 35 ls st m := AW_step chk_X6_both h
theorem st_X6_both_43 {D : Nat} {Q : APost} {ls : AL} {st : List AV} {m : AM} (h : exP (aCC D) D false (AW D 97 Q) Q bX6_both_43 ls st m) : AW D 97 Q 43 ls st m := AW_step chk_X6_both h
theorem st_X6_both_51 {D : Nat} {Q : APost} {ls : AL} {st : List AV} {m : AM} (h : exP (aCC D) D false (AW D 97 Q) Q bX6_both_51 ls st m) : AW D 97 Q 51 ls st m := AW_step chk_X6_both h
theorem st_X6_both_55 {D : Nat} {Q : APost} {ls : AL} {st : List AV} {m : AM} (h : exP (aCC D) D false (AW D 97 Q) Q bX6_both_55 ls st m) : AW D 97 Q 55 ls st m := AW_step chk_X6_both h
theorem st_X6_both_68 {D : Nat} {Q : APost} {ls : AL} {st : List AV} {m : AM} (h : exP (aCC D) D false (AW D 97 Q) Q bX6_both_68 ls st m) : AW D 97 Q 68 ls st m := AW_step chk_X6_both h
set_option maxRecDepth 100000 in
theorem chk_X6_clash : chkM 98 = true := by decide +kernel
set_option maxRecDepth 100000 in
theorem own_X6_clash : ((mNm 98).cls = cNm (mOwn 98) ∧ plainName (mNm 98).cls = true) ∧ mMax 98 = 6 := by decide +kernel
theorem st_X6_clash_0 {D : Nat} {Q : APost} {ls : AL} {st : List AV} {m : AM} (h : exP (aCC D) D false (AW D 98 Q) Q bX6_clash_0 ls st m) : AW D 98 Q 0 ls st m := AW_step chk_X6_clash h
theorem st_X6_clash_4 {D : Nat} {Q : APost} {ls : AL} {st : List AV} {m : AM} (h : exP (aCC D) D false (AW D 98 Q) Q bX6_clash_4 ls st m) : AW D 98 Q 4 ls st m := AW_step chk_X6_clash h
theorem st_X6_clash_13 {D : Nat} {Q : APost} {ls : AL} {st : List AV} {m : AM} (h : exP (aCC D) D false (AW D 98 Q) Q bX6_clash_13 ls st m) : AW D 98 Q 13 ls st m := AW_step chk_X6_clash h
theorem st_X6_clash_15 {D : Nat} {Q : APost} {ls : AL} {st : List AV} {m : AM} (h : exP (aCC D) D false (AW D 98 Q) Q bX6_clash_15 ls st m) : AW D 98 Q 15 ls st m := AW_step chk_X6_clash h
theorem st_X6_clash_20 {D : Nat} {Q : APost} {ls : AL} {st : List AV} {m : AM} (h : exP (aCC D) D false (AW D 98 Q) Q bX6_clash_20 ls st m) : AW D 98 Q 20 ls st m := AW_step chk_X6_clash h
theorem st_X6_clash_29 {D : Nat} {Q : APost} {ls : AL} {st : List AV} {m : AM} (h : exP (aCC D) D false (AW D 98 Q) Q bX6_clash_29 ls st m) : AW D 98 Q 29 ls st m := AW_step chk_X6_clash h
theorem st_X6_clash_35 {D : Nat} {Q : APost} {ls : AL} {st : List AV} {m : AM} (h : exP (aCC D) D false (AW D 98 Q) Q bX6_clash_35 ls st m) : AW D 98 Q 35 ls st m := AW_step chk_X6_clash h
theorem st_X6_clash_44 {D : Nat} {Q : APost} {ls : AL} {st : List AV} {m : AM} (h : exP (aCC D) D false (AW D 98 Q) Q bX6_clash_44 ls st m) : AW D 98 Q 44 ls st m := AW_step chk_X6_clash h
theorem st_X6_clash_55 {D : Nat} {Q : APost} {ls : AL} {st : List AV} {m : AM} (h : exP (aCC D) D false (AW D 98 Q) Q bX6_clash_55 ls st m) : AW D 98 Q 55 ls st m := AW_step chk_X6_clash h
theorem st_X6_clash_58 {D : Nat} {Q : APost} {ls : AL} {st : List AV} {m : AM} (h : exP (aCC D) D false (AW D 98 Q) Q bX6_clash_58 ls st m) : AW D 98 Q 58 ls st m := AW_step chk_X6_clash h
theorem st_X6_clash_63 {D : Nat} {Q : APost} {ls : AL} {st : List AV} {m : AM} (h : exP (aCC D) D false (AW D 98 Q) Q bX6_clash_63 ls st m) : AW D 98 Q 63 ls st m := AW_step chk_X6_clash h
theorem st_X6_clash_67 {D : Nat} {Q : APost} {ls : AL} {st : List AV} {m : AM} (h : exP (aCC D) D false (AW D 98 Q) Q bX6_clash_67 ls st m) : AW D 98 Q 67 ls st m := AW_step chk_X6_clash h
theorem st_X6_clash_72 {D : Nat} {Q : APost} {ls : AL} {st : List AV} {m : AM} (h : exP (aCC D) D false (AW D 98 Q) Q bX6_clash_72 ls st m) : AW D 98 Q 72 ls st m := AW_step chk_X6_clash h
theorem st_X6_clash_77 {D : Nat} {Q : APost} {ls : AL} {st : List AV} {m : AM} (h : exP (aCC D) D false (AW D 98 Q) Q bX6_clash_77 ls st m) : AW D 98 Q 77 ls st m := AW_step chk_X6_clash h
theorem st_X6_clash_82 {D : Nat} {Q : APost} {ls : AL} {st : List AV} {m : AM} (h : exP (aCC D) D false (AW D 98 Q) Q bX6_clash_82 ls st m) : AW D 98 Q 82 ls st m := AW_step chk_X6_clash h
theorem st_X6_clash_90 {D : Nat} {Q : APost} {ls : AL} {st : List AV} {m : AM} (h : exP (aCC D) D false (AW D 98 Q) Q bX6_clash_90 ls st m) : AW D 98 Q 90 ls st m := AW_step chk_X6_clash h
theorem st_X6_clash_91 {D : Nat} {Q : APost} {ls : AL} {st : List AV} {m : AM} (h : exP (aCC D) D false (AW D 98 Q) Q bX6_clash_91 ls st m) : AW D 98 Q 91 ls st m := AW_step chk_X6_clash h
theorem st_X6_clash_94 {D : Nat} {Q : APost} {ls : AL} {st : List AV} {m : AM} (h : exP (aCC D) D false (AW D 98 Q) Q bX6_clash_94 ls st m) : AW D 98 Q 94 ls st m := AW_step chk_X6_clash h
theorem st_X6_clash_100 {D : Nat} {Q : APost} {ls : AL} {st : List AV} {m : AM} (h : exP (aCC D) D false (AW D 98 Q) Q bX6_clash_100 ls st m) : AW D 98 Q 100 ls st m := AW_step chk_X6_clash h
theorem st_X6_clash_106 {D : Nat} {Q : APost} {ls : AL} {st : List AV} {m : AM} (h : exP (aCC D) D false (AW D 98 Q) Q bX6_clash_106 ls st m) : AW D 98 Q 106 ls st m := AW_step chk_X6_clash h
set_option maxRecDepth 100000 in
theorem chk_X6_court : chkM 99 = true := by decide +kernel
set_option maxRecDepth 100000 in
theorem own_X6_court : ((mNm 99).cls = cNm (mOwn 99) ∧ plainName (mNm 99).cls = true) ∧ mMax 99 = 3 := by decide +kernel
theorem st_X6_court_0 {D : Nat} {Q : APost} {ls : AL} {st : List AV} {m : AM} (h : exP (aCC D) D true (AW D 99 Q) Q bX6_court_0 ls st m) : AW D 99 Q 0 ls st m := AW_step chk_X6_court h
theorem st_X6_court_8 {D : Nat} {Q : APost} {ls : AL} {st : List AV} {m : AM} (h : exP (aCC D) D true (AW D 99 Q) Q bX6_court_8 ls st m) : AW D 99 Q 8 ls st m := AW_step chk_X6_court h
theorem st_X6_court_17 {D : Nat} {Q : APost} {ls : AL} {st : List AV} {m : AM} (h : exP (aCC D) D true (AW D 99 Q) Q bX6_court_17 ls st m) : AW D 99 Q 17 ls st m := AW_step chk_X6_court h
theorem st_X6_court_19 {D : Nat} {Q : APost} {ls : AL} {st : List AV} {m : AM} (h : exP (aCC D) D true (AW D 99 Q) Q bX6_court_19 ls st m) : AW D 99 Q 19 ls st m := AW_step chk_X6_court h
set_option maxRecDepth 100000 in
theorem chk_X6_otherwise : chkM 100 = true := by decide +kernel
set_option maxRecDepth 100000 in
theorem own_X6_otherwise : ((mNm 100).cls = cNm (mOwn 100) ∧ plainName (mNm 100).cls = true) ∧ mMax 100 = 4 := by decide +kernel
theorem st_X6_otherwise_0 {D : Nat} {Q : APost} {ls : AL} {st : List AV} {m : AM} (h : exP (aCC D) D false (AW D 100 Q) Q bX6_otherwise_0 ls st m) : AW D 100 Q 0 ls st m := AW_step chk_X6_otherwise h
theorem st_X6_otherwise_4 {D : Nat} {Q : APost} {ls : AL} {st : List AV} {m : AM} (h : exP (aCC D) D false (AW D 100 Q) Q bX6_otherwise_4 ls st m) : AW D 100 Q 4 ls st m := AW_step chk_X6_otherwise h
theorem st_X6_otherwise_6 {D : Nat} {Q : APost} {ls : AL} {st : List AV} {m : AM} (h : exP (aCC D) D false (AW D 100 Q) Q bX6_otherwise_6 ls st m) : AW D 100 Q 6 ls st m := AW_step chk_X6_otherwise h
theorem st_X6_otherwise_10 {D : Nat} {Q : APost} {ls : AL} {st : List AV} {m : AM} (h : exP (aCC D) D false (AW D 100 Q) Q bX6_otherwise_10 ls st m) : AW D 100 Q 10 ls st m := AW_step chk_X6_otherwise h
theorem st_X6_otherwise_18 {D : Nat} {Q : APost} {ls : AL} {st : List AV} {m : AM} (h : exP (aCC D) D false (AW D 100 Q) Q bX6_otherwise_18 ls st m) : AW D 100 Q 18 ls st m := AW_step chk_X6_otherwise h
theorem st_X6_otherwise_32 {D : Nat} {Q : APost} {ls : AL} {st : List AV} {m : AM} (h : exP (aCC D) D false (AW D 100 Q) Q bX6_otherwise_32 ls st m) : AW D 100 Q 32 ls st m := AW_step chk_X6_otherwise h
theorem st_X6_otherwise_36 {D : Nat} {Q : APost} {ls : AL} {st : List AV} {m : AM} (h : exP (aCC D) D false (AW D 100 Q) Q bX6_otherwise_36 ls st m) : AW D 100 Q 36 ls st m := AW_step chk_X6_otherwise h
theorem st_X6_otherwise_37 {D : Nat} {Q : APost} {ls : AL} {st : List AV} {m : AM} (h : exP (aCC D) D false (AW D 100 Q) Q bX6_otherwise_37 ls st m) : AW D 100 Q 37 ls st m := AW_step chk_X6_otherwise h
theorem st_X6_otherwise_40 {D : Nat} {Q : APost} {ls : AL} {st : List AV} {m : AM} (h : exP (aCC D) D false (AW D 100 Q) Q bX6_otherwise_40 ls st m) : AW D 100 Q 40 ls st m := AW_step chk_X6_otherwise h
theorem st_X6_otherwise_43 {D : Nat} {Q : APost} {ls : AL} {st : List AV} {m : AM} (h : exP (aCC D) D false (AW D 100 Q) Q bX6_otherwise_43 ls st m) : AW D 100 Q 43 ls st m := AW_step chk_X6_otherwise h
theorem st_X6_otherwise_48 {D : Nat} {Q : APost} {ls : AL} {st : List AV} {m : AM} (h : exP (aCC D) D false (AW D 100 Q) Q bX6_otherwise_48 ls st m) : AW D 100 Q 48 ls st m := AW_step chk_X6_otherwise h
theorem st_X6_otherwise_50 {D : Nat} {Q : APost} {ls : AL} {st : List AV} {m : AM} (h : exP (aCC D) D false (AW D 100 Q) Q bX6_otherwise_50 ls st m) : AW D 100 Q 50 ls st m := AW_step chk_X6_otherwise h
theorem st_X6_otherwise_53 {D : Nat} {Q : APost} {ls : AL} {st : List AV} {m : AM} (h : exP (aCC D) D false (AW D 100 Q) Q bX6_otherwise_53 ls st m) : AW D 100 Q 53 ls st m := AW_step chk_X6_otherwise h
theorem st_X6_otherwise_59 {D : Nat} {Q : APost} {ls : AL} {st : List AV} {m : AM} (h : exP (aCC D) D false (AW D 100 Q) Q bX6_otherwise_59 ls st m) : AW D 100 Q 59 ls st m := AW_step chk_X6_otherwise h
set_option maxRecDepth 100000 in
theorem chk_X6_look : chkM 101 = true := by decide +kernel
set_option maxRecDepth 100000 in
theorem own_X6_look : ((mNm 101).cls = cNm (mOwn 101) ∧ plainName (mNm 101).cls = true) ∧ mMax 101 = 3 := by decide +kernel
theorem st_X6_look_0 {D : Nat} {Q : APost} {ls : AL} {st : List AV} {m : AM} (h : exP (aCC D) D false (AW D 101 Q) Q bX6_look_0 ls st m) : AW D 101 Q 0 ls st m := AW_step chk_X6_look h
theorem st_X6_look_8 {D : Nat} {Q : APost} {ls : AL} {st : List AV} {m : AM} (h : exP (aCC D) D false (AW D 101 Q) Q bX6_look_8 ls st m) : AW D 101 Q 8 ls st m := AW_step chk_X6_look h
theorem st_X6_look_10 {D : Nat} {Q : APost} {ls : AL} {st : List AV} {m : AM} (h : exP (aCC D) D false (AW D 101 Q) Q bX6_look_10 ls st m) : AW D 101 Q 10 ls st m := AW_step chk_X6_look h
theorem st_X6_look_64 {D : Nat} {Q : APost} {ls : AL} {st : List AV} {m : AM} (h : exP (aCC D) D false (AW D 101 Q) Q bX6_look_64 ls st m) : AW D 101 Q 64 ls st m := AW_step chk_X6_look h
theorem st_X6_look_71 {D : Nat} {Q : APost} {ls : AL} {st : List AV} {m : AM} (h : exP (aCC D) D false (AW D 101 Q) Q bX6_look_71 ls st m) : AW D 101 Q 71 ls st m := AW_step chk_X6_look h
theorem st_X6_look_78 {D : Nat} {Q : APost} {ls : AL} {st : List AV} {m : AM} (h : exP (aCC D) D false (AW D 101 Q) Q bX6_look_78 ls st m) : AW D 101 Q 78 ls st m := AW_step chk_X6_look h
theorem st_X6_look_85 {D : Nat} {Q : APost} {ls : AL} {st : List AV} {m : AM} (h : exP (aCC D) D false (AW D 101 Q) Q bX6_look_85 ls st m) : AW D 101 Q 85 ls st m := AW_step chk_X6_look h
theorem st_X6_look_92 {D : Nat} {Q : APost} {ls : AL} {st : List AV} {m : AM} (h : exP (aCC D) D false (AW D 101 Q) Q bX6_look_92 ls st m) : AW D 101 Q 92 ls st m := AW_step chk_X6_look h
theorem st_X6_look_99 {D : Nat} {Q : APost} {ls : AL} {st : List AV} {m : AM} (h : exP (aCC D) D false (AW D 101 Q) Q bX6_look_99 ls st m) : AW D 101 Q 99 ls st m := AW_step chk_X6_look h
theorem st_X6_look_106 {D : Nat} {Q : APost} {ls : AL} {st : List AV} {m : AM} (h : exP (aCC D) D false (AW D 101 Q) Q bX6_look_106 ls st m) : AW D 101 Q 106 ls st m := AW_step chk_X6_look h
theorem st_X6_look_113 {D : Nat} {Q : APost} {ls : AL} {st : List AV} {m : AM} (h : exP (aCC D) D false (AW D 101 Q) Q bX6_look_113 ls st m) : AW D 101 Q 113 ls st m := AW_step chk_X6_look h
theorem st_X6_look_120 {D : Nat} {Q : APost} {ls : AL} {st : List AV} {m : AM} (h : exP (aCC D) D false (AW D 101 Q) Q bX6_look_120 ls st m) : AW D 101 Q 120 ls st m := AW_step chk_X6_look h
theorem st_X6_look_139 {D : Nat} {Q : APost} {ls : AL} {st : List AV} {m : AM} (h : exP (aCC D) D false (AW D 101 Q) Q bX6_look_139 ls st m) : AW D 101 Q 139 ls st m := AW_step chk_X6_look h
theorem st_X6_look_143 {D : Nat} {Q : APost} {ls : AL} {st : List AV} {m : AM} (h : exP (aCC D) D false (AW D 101 Q) Q bX6_look_143 ls st m) : AW D 101 Q 143 ls st m := AW_step chk_X6_look h
theorem st_X6_look_149 {D : Nat} {Q : APost} {ls : AL} {st : List AV} {m : AM} (h : exP (aCC D) D false (AW D 101 Q) Q bX6_look_149 ls st m) : AW D 101 Q 149 ls st m := AW_step chk_X6_look h
theorem st_X6_look_158 {D : Nat} {Q : APost} {ls : AL} {st : List AV} {m : AM} (h : exP (aCC D) D false (AW D 101 Q) Q bX6_look_158 ls st m) : AW D 101 Q 158 ls st m := AW_step chk_X6_look h
theorem st_X6_look_164 {D : Nat} {Q : APost} {ls : AL} {st : List AV} {m : AM} (h : exP (aCC D) D false (AW D 101 Q) Q bX6_look_164 ls st m) : AW D 101 Q 164 ls st m := AW_step chk_X6_look h
theorem st_X6_look_165 {D : Nat} {Q : APost} {ls : AL} {st : List AV} {m : AM} (h : exP (aCC D) D false (AW D 101 Q) Q bX6_look_165 ls st m) : AW D 101 Q 165 ls st m := AW_step chk_X6_look h
set_option maxRecDepth 100000 in
theorem chk_X6_count : chkM 102 = true := by decide +kernel
set_option maxRecDepth 100000 in
theorem own_X6_count : ((mNm 102).cls = cNm (mOwn 102) ∧ plainName (mNm 102).cls = true) ∧ mMax 102 = 3 := by decide +kernel
theorem st_X6_count_0 {D : Nat} {Q : APost} {ls : AL} {st : List AV} {m : AM} (h : exP (aCC D) D false (AW D 102 Q) Q bX6_count_0 ls st m) : AW D 102 Q 0 ls st m := AW_step chk_X6_count h
theorem st_X6_count_48 {D : Nat} {Q : APost} {ls : AL} {st : List AV} {m : AM} (h : exP (aCC D) D false (AW D 102 Q) Q bX6_count_48 ls st m) : AW D 102 Q 48 ls st m := AW_step chk_X6_count h
theorem st_X6_count_53 {D : Nat} {Q : APost} {ls : AL} {st : List AV} {m : AM} (h : exP (aCC D) D false (AW D 102 Q) Q bX6_count_53 ls st m) : AW D 102 Q 53 ls st m := AW_step chk_X6_count h
theorem st_X6_count_58 {D : Nat} {Q : APost} {ls : AL} {st : List AV} {m : AM} (h : exP (aCC D) D false (AW D 102 Q) Q bX6_count_58 ls st m) : AW D 102 Q 58 ls st m := AW_step chk_X6_count h
theorem st_X6_count_63 {D : Nat} {Q : APost} {ls : AL} {st : List AV} {m : AM} (h : exP (aCC D) D false (AW D 102 Q) Q bX6_count_63 ls st m) : AW D 102 Q 63 ls st m := AW_step chk_X6_count h
theorem st_X6_count_68 {D : Nat} {Q : APost} {ls : AL} {st : List AV} {m : AM} (h : exP (aCC D) D false (AW D 102 Q) Q bX6_count_68 ls st m) : AW D 102 Q 68 ls st m := AW_step chk_X6_count h
theorem st_X6_count_73 {D : Nat} {Q : APost} {ls : AL} {st : List AV} {m : AM} (h : exP (aCC D) D false (AW D 102 Q) Q bX6_count_73 ls st m) : AW D 102 Q 73 ls st m := AW_step chk_X6_count h
theorem st_X6_count_81 {D : Nat} {Q : APost} {ls : AL} {st : List AV} {m : AM} (h : exP (aCC D) D false (AW D 102 Q) Q bX6_count_81 ls st m) : AW D 102 Q 81 ls st m := AW_step chk_X6_count h
theorem st_X6_count_86 {D : Nat} {Q : APost} {ls : AL} {st : List AV} {m : AM} (h : exP (aCC D) D false (AW D 102 Q) Q bX6_count_86 ls st m) : AW D 102 Q 86 ls st m := AW_step chk_X6_count h
theorem st_X6_count_96 {D : Nat} {Q : APost} {ls : AL} {st : List AV} {m : AM} (h : exP (aCC D) D false (AW D 102 Q) Q bX6_count_96 ls st m) : AW D 102 Q 96 ls st m := AW_step chk_X6_count h
theorem st_X6_count_102 {D : Nat} {Q : APost} {ls : AL} {st : List AV} {m : AM} (h : exP (aCC D) D false (AW D 102 Q) Q bX6_count_102 ls st m) : AW D 102 Q 102 ls st m := AW_step chk_X6_count h
theorem st_X6_count_104 {D : Nat} {Q : APost} {ls : AL} {st : List AV} {m : AM} (h : exP (aCC D) D false (AW D 102 Q) Q bX6_count_104 ls st m) : AW D 102 Q 104 ls st m := AW_step chk_X6_count h
set_option maxRecDepth 100000 in
theorem chk_J6_compare : chkM 103 = true := by decide +kernel
set_option maxRecDepth 100000 in
theorem own_J6_compare : ((mNm 103).cls = cNm (mOwn 103) ∧ plainName (mNm 103).cls = true) ∧ mMax 103 = 2 := by decide +kernel
theorem st_J6_compare_0 {D : Nat} {Q : APost} {ls : AL} {st : List AV} {m : AM} (h : exP (aCC D) D false (AW D 103 Q) Q bJ6_compare_0 ls st m) : AW D 103 Q 0 ls st m := AW_step chk_J6_compare h
theorem st_J6_compare_5 {D : Nat} {Q : APost} {ls : AL} {st : List AV} {m : AM} (h : exP (aCC D) D false (AW D 103 Q) Q bJ6_compare_5 ls st m) : AW D 103 Q 5 ls st m := AW_step chk_J6_compare h
theorem st_J6_compare_9 {D : Nat} {Q : APost} {ls : AL} {st : List AV} {m : AM} (h : exP (aCC D) D false (AW D 103 Q) Q bJ6_compare_9 ls st m) : AW D 103 Q 9 ls st m := AW_step chk_J6_compare h
theorem st_J6_compare_14 {D : Nat} {Q : APost} {ls : AL} {st : List AV} {m : AM} (h : exP (aCC D) D false (AW D 103 Q) Q bJ6_compare_14 ls st m) : AW D 103 Q 14 ls st m := AW_step chk_J6_compare h
theorem st_J6_compare_18 {D : Nat} {Q : APost} {ls : AL} {st : List AV} {m : AM} (h : exP (aCC D) D false (AW D 103 Q) Q bJ6_compare_18 ls st m) : AW D 103 Q 18 ls st m := AW_step chk_J6_compare h
theorem st_J6_compare_19 {D : Nat} {Q : APost} {ls : AL} {st : List AV} {m : AM} (h : exP (aCC D) D false (AW D 103 Q) Q bJ6_compare_19 ls st m) : AW D 103 Q 19 ls st m := AW_step chk_J6_compare h
set_option maxRecDepth 100000 in
theorem chk_J6_bitCount : chkM 104 = true := by decide +kernel
set_option maxRecDepth 100000 in
theorem own_J6_bitCount : ((mNm 104).cls = cNm (mOwn 104) ∧ plainName (mNm 104).cls = true) ∧ mMax 104 = 1 := by decide +kernel
theorem st_J6_bitCount_0 {D : Nat} {Q : APost} {ls : AL} {st : List AV} {m : AM} (h : exP (aCC D) D false (AW D 104 Q) Q bJ6_bitCount_0 ls st m) : AW D 104 Q 0 ls st m := AW_step chk_J6_bitCount h
end
section
theorem nI_lt0 {n : Nat} (h : n < 2147483648) : (nI n < 0) = False := eq_false (nI_pos h)
theorem nI_ge0 {n : Nat} (h : n < 2147483648) : (0 ≤ nI n) = True := eq_true (nI_pos' h)
theorem lit_nI (k : Nat) : (OfNat.ofNat k : Int32) = nI k := rfl
theorem lit_nle {k n : Nat} (h : n < k) (hk : k < 2147483648) : ((OfNat.ofNat k : Int32) ≤ nI n) = False := eq_false (nI_ge h hk)
theorem lit_le {k n : Nat} (h : k ≤ n) (hn : n < 2147483648) : ((OfNat.ofNat k : Int32) ≤ nI n) = True := eq_true (nI_le h hn)
theorem lit_lt {k n : Nat} (h : k < n) (hn : n < 2147483648) : ((OfNat.ofNat k : Int32) < nI n) = True := eq_true (nI_lt h hn)
theorem lit_nlt {k n : Nat} (h : n ≤ k) (hk : k < 2147483648) : ((OfNat.ofNat k : Int32) < nI n) = False := eq_false (nI_nlt h hk)
theorem nI_muladd (a b k : Nat) : nI a * (OfNat.ofNat k : Int32) + nI b = nI (a * k + b) := by
  rw [lit_nI, pk_mul, nI_add]
theorem nI_litadd (a k : Nat) : nI a + (OfNat.ofNat k : Int32) = nI (a + k) := by rw [lit_nI, nI_add]
theorem nI_litmul (a k : Nat) : (OfNat.ofNat k : Int32) * nI a = nI (k * a) := by rw [lit_nI, pk_mul]
theorem aup_eq (m : AM) (r : Nat) (g : Nat → Int32) : aup m r g r = g := by simp [aup]
theorem aup_ne {m : AM} {r a : Nat} {g : Nat → Int32} (h : a ≠ r) : aup m r g a = m a := by simp [aup, h]
theorem upd_eq (f : Nat → Int32) (k : Nat) (x : Int32) : upd f k x k = x := by simp [upd]
theorem upd_ne {f : Nat → Int32} {k j : Nat} {x : Int32} (h : j ≠ k) : upd f k x j = f j := by simp [upd, h]
theorem nI_inj {a b : Nat} (ha : a < 2147483648) (hb : b < 2147483648) : (nI a = nI b) = (a = b) := propext (nI_eq ha hb)
theorem nI_of_range {x : Int32} {n : Nat} (h0 : ¬ x < 0) (h1 : ¬ nI n ≤ x) (hn : n < 2147483648) : ∃ j, j < n ∧ x = nI j := by
  rcases pk_ix x hn with h | h | h
  · exact absurd h h0
  · exact absurd h h1
  · exact h
def bt (x : Int32) (i : Nat) : Bool := x.toBitVec.getLsbD i
theorem b_ext {x y : Int32} (h : ∀ i, i < 32 → bt x i = bt y i) : x = y := Int32.toBitVec_inj.mp (BitVec.eq_of_getLsbD_eq (fun i hi => h i hi))
theorem b_or (x y : Int32) (i : Nat) : bt (x ||| y) i = (bt x i || bt y i) := by unfold bt; rw [Int32.toBitVec_or, BitVec.getLsbD_or]
theorem b_and (x y : Int32) (i : Nat) : bt (x &&& y) i = (bt x i && bt y i) := by unfold bt; rw [Int32.toBitVec_and, BitVec.getLsbD_and]
theorem b_xor (x y : Int32) (i : Nat) : bt (x ^^^ y) i = (bt x i ^^ bt y i) := by unfold bt; rw [Int32.toBitVec_xor, BitVec.getLsbD_xor]
theorem b_big {x : Int32} {i : Nat} (h : 32 ≤ i) : bt x i = false := BitVec.getLsbD_of_ge _ _ h
theorem b_255 (i : Nat) : bt 255 i = decide (i < 8) := by
  rcases Nat.lt_or_ge i 32 with h | h
  · exact (by decide +kernel : ∀ i, i < 32 → bt 255 i = decide (i < 8)) i h
  · rw [b_big h, decide_eq_false (by omega)]
theorem b_65535 (i : Nat) : bt 65535 i = decide (i < 16) := by
  rcases Nat.lt_or_ge i 32 with h | h
  · exact (by decide +kernel : ∀ i, i < 32 → bt 65535 i = decide (i < 16)) i h
  · rw [b_big h, decide_eq_false (by omega)]
theorem b_m1 : ∀ i, i < 32 → bt (-1) i = true := by decide +kernel
theorem b_0 (i : Nat) : bt 0 i = false := BitVec.getLsbD_zero
theorem s_l : ∀ n, n < 32 → ((nI n &&& 31).toBitVec.smod 32).toNat = n := by decide +kernel
theorem s_u : ∀ n, n < 32 → (((nI n).toUInt32 &&& Int32.toUInt32 31).toBitVec % 32).toNat = n := by decide +kernel
theorem b_shl (n : Nat) (hn : n < 32) (x : Int32) {i : Nat} (hi : i < 32) : bt (x <<< (nI n &&& 31)) i = (decide (n ≤ i) && bt x (i - n)) := by
  unfold bt
  rw [Int32.toBitVec_shiftLeft]
  show (x.toBitVec <<< ((nI n &&& 31).toBitVec.smod 32).toNat).getLsbD i = _
  rw [s_l n hn, BitVec.getLsbD_shiftLeft]
  rcases Nat.lt_or_ge i n with h | h
  · simp [h, Nat.not_le.mpr h]
  · simp [hi, h, Nat.not_lt.mpr h]
theorem b_ushr (n : Nat) (hn : n < 32) (x : Int32) (i : Nat) : bt ((x.toUInt32 >>> ((nI n).toUInt32 &&& Int32.toUInt32 31)).toInt32) i = bt x (n + i) := by
  show (x.toUInt32 >>> ((nI n).toUInt32 &&& Int32.toUInt32 31)).toBitVec.getLsbD i = x.toUInt32.toBitVec.getLsbD (n + i)
  rw [UInt32.toBitVec_shiftRight]
  show (x.toUInt32.toBitVec >>> (((nI n).toUInt32 &&& Int32.toUInt32 31).toBitVec % 32).toNat).getLsbD i = _
  rw [s_u n hn, BitVec.getLsbD_ushiftRight]
theorem b_sshr (n : Nat) (hn : n < 32) (x : Int32) {i : Nat} (hi : i < 32) : bt (x >>> (nI n &&& 31)) i = if n + i < 32 then bt x (n + i) else bt x 31 := by
  unfold bt
  rw [Int32.toBitVec_shiftRight]
  show (x.toBitVec.sshiftRight ((nI n &&& 31).toBitVec.smod 32).toNat).getLsbD i = _
  rw [s_l n hn, BitVec.getLsbD_sshiftRight, BitVec.msb_eq_getLsbD_last]
  simp [hi]
def b01 (b : Bool) : Int32 := match b with
  | true => 1
  | false => 0
theorem b01_0 (b : Bool) : (b01 b = 0) = (b = false) := by cases b <;> simp [b01]
theorem b01_1 (b : Bool) : (b01 b = 1) = (b = true) := by cases b <;> simp [b01]
theorem b01_01 (b : Bool) : b01 b = 0 ∨ b01 b = 1 := by cases b <;> simp [b01]
theorem b01_t : b01 true = 1 := rfl
theorem b01_f : b01 false = 0 := rfl
theorem b_1 : ∀ i, i < 32 → bt 1 i = decide (i = 0) := by decide +kernel
theorem and1_0 (x : Int32) : (x &&& 1 = 0) ↔ bt x 0 = false := by
  constructor
  · intro h
    have h2 := b_and x 1 0
    rw [h, b_0, b_1 0 (by omega)] at h2
    simpa using h2.symm
  · intro h
    apply b_ext
    intro i hi
    rw [b_and, b_1 i hi, b_0]
    by_cases h0 : i = 0
    · subst h0; simp [h]
    · simp [h0]
def f_holds (s i : Int32) : Int32 := if (s >>> (i &&& 31)) &&& 1 = 0 then 0 else 1
theorem holds_bt (s : Int32) {i : Nat} (h : i < 32) : f_holds s (nI i) = b01 (bt s i) := by
  unfold f_holds
  have h2 : bt (s >>> (nI i &&& 31)) 0 = bt s i := by rw [b_sshr i h s (by omega)]; simp [h]
  by_cases hb : bt s i = true
  · have h3 : ¬ ((s >>> (nI i &&& 31)) &&& 1 = 0) := by rw [and1_0, h2, hb]; simp
    rw [if_neg h3, hb]; rfl
  · have h3 : ((s >>> (nI i &&& 31)) &&& 1 = 0) := by rw [and1_0, h2]; simpa using hb
    rw [if_pos h3]
    have : bt s i = false := by simpa using hb
    rw [this]; rfl
theorem bt_shl1 {n i : Nat} (hn : n < 32) (hi : i < 32) : bt ((1 : Int32) <<< (nI n &&& 31)) i = decide (i = n) := by
  rw [b_shl n hn 1 hi]
  by_cases h : n ≤ i
  · rw [b_1 (i - n) (by omega)]
    by_cases h2 : i = n
    · subst h2; simp
    · have h3 : ¬ i - n = 0 := by omega
      simp [h2, h3]
  · have h2 : ¬ i = n := by omega
    simp [h, h2]
theorem bt_not (x : Int32) {i : Nat} (hi : i < 32) : bt (x ^^^ (-1)) i = !bt x i := by rw [b_xor, b_m1 i hi]; simp
end
section
/-! ===== leaves of the class ===== -/
theorem c_holds (m : AM) (s : Int32) (i : Nat) (hi : i < 32) : AC 0 kX5_holds [.inl s, .inl (nI i)] m (fun r u => m = u ∧ r = some (b01 (bt s i))) := by
  refine AC_of own_X5_holds (ls := [some (.inl s), some (.inl (nI i))]) (z := 0) (Nat.le_of_ble_eq_true rfl) rfl ?_
  have hh := holds_bt s hi
  unfold f_holds at hh
  repeat' first
    | (refine st_X5_holds_0 ?_; simp only [bX5_holds_0, exP, stP, p1, p2, pr, pobj, parr, sh0, sh1, sh2, sh3, sh4, sh5, sh6, sh7, sh8, sh9, sh10, sh11, sh12, sh13, sh14, sh15, sh16, sh17, sh18, sh19, sh20, sh21, sh22, sh23, sh24, sh25, sh26, sh27, sh28, sh29, sh30, sh31, sh32, sh33, sh34, sh35, sh36, sh37, sh38, sh39, sh40, sh41, sh42, sh43, sh44, sh45, sh46, sh47, sh48, sh49, sh50, sh51, sh52, sh53, sh54, sh55, sh56, sh57, sh58, sh59, brP, brN, swP, amask, apush, List.getElem?_cons_zero, List.getElem?_cons_succ, List.set_cons_zero, List.set_cons_succ, List.take_succ_cons, List.take_zero, List.drop_succ_cons, List.drop_zero, List.reverse_cons, List.reverse_nil, List.nil_append, List.cons_append, List.length_cons, List.length_nil, true_and, and_true, Nat.zero_le, Nat.reduceLeDiff, Nat.reduceAdd, Nat.reduceEqDiff, false_imp_iff, true_imp_iff, not_false_eq_true, not_true_eq_false, imp_self, forall_const]; try (refine ⟨fun c => ?_, fun c => ?_⟩))
    | (refine st_X5_holds_8 ?_; simp only [bX5_holds_8, exP, stP, p1, p2, pr, pobj, parr, sh0, sh1, sh2, sh3, sh4, sh5, sh6, sh7, sh8, sh9, sh10, sh11, sh12, sh13, sh14, sh15, sh16, sh17, sh18, sh19, sh20, sh21, sh22, sh23, sh24, sh25, sh26, sh27, sh28, sh29, sh30, sh31, sh32, sh33, sh34, sh35, sh36, sh37, sh38, sh39, sh40, sh41, sh42, sh43, sh44, sh45, sh46, sh47, sh48, sh49, sh50, sh51, sh52, sh53, sh54, sh55, sh56, sh57, sh58, sh59, brP, brN, swP, amask, apush, List.getElem?_cons_zero, List.getElem?_cons_succ, List.set_cons_zero, List.set_cons_succ, List.take_succ_cons, List.take_zero, List.drop_succ_cons, List.drop_zero, List.reverse_cons, List.reverse_nil, List.nil_append, List.cons_append, List.length_cons, List.length_nil, true_and, and_true, Nat.zero_le, Nat.reduceLeDiff, Nat.reduceAdd, Nat.reduceEqDiff, false_imp_iff, true_imp_iff, not_false_eq_true, not_true_eq_false, imp_self, forall_const]; try (refine ⟨fun c => ?_, fun c => ?_⟩))
    | (refine st_X5_holds_12 ?_; simp only [bX5_holds_12, exP, stP, p1, p2, pr, pobj, parr, sh0, sh1, sh2, sh3, sh4, sh5, sh6, sh7, sh8, sh9, sh10, sh11, sh12, sh13, sh14, sh15, sh16, sh17, sh18, sh19, sh20, sh21, sh22, sh23, sh24, sh25, sh26, sh27, sh28, sh29, sh30, sh31, sh32, sh33, sh34, sh35, sh36, sh37, sh38, sh39, sh40, sh41, sh42, sh43, sh44, sh45, sh46, sh47, sh48, sh49, sh50, sh51, sh52, sh53, sh54, sh55, sh56, sh57, sh58, sh59, brP, brN, swP, amask, apush, List.getElem?_cons_zero, List.getElem?_cons_succ, List.set_cons_zero, List.set_cons_succ, List.take_succ_cons, List.take_zero, List.drop_succ_cons, List.drop_zero, List.reverse_cons, List.reverse_nil, List.nil_append, List.cons_append, List.length_cons, List.length_nil, true_and, and_true, Nat.zero_le, Nat.reduceLeDiff, Nat.reduceAdd, Nat.reduceEqDiff, false_imp_iff, true_imp_iff, not_false_eq_true, not_true_eq_false, imp_self, forall_const]; try (refine ⟨fun c => ?_, fun c => ?_⟩))
    | (refine st_X5_holds_13 ?_; simp only [bX5_holds_13, exP, stP, p1, p2, pr, pobj, parr, sh0, sh1, sh2, sh3, sh4, sh5, sh6, sh7, sh8, sh9, sh10, sh11, sh12, sh13, sh14, sh15, sh16, sh17, sh18, sh19, sh20, sh21, sh22, sh23, sh24, sh25, sh26, sh27, sh28, sh29, sh30, sh31, sh32, sh33, sh34, sh35, sh36, sh37, sh38, sh39, sh40, sh41, sh42, sh43, sh44, sh45, sh46, sh47, sh48, sh49, sh50, sh51, sh52, sh53, sh54, sh55, sh56, sh57, sh58, sh59, brP, brN, swP, amask, apush, List.getElem?_cons_zero, List.getElem?_cons_succ, List.set_cons_zero, List.set_cons_succ, List.take_succ_cons, List.take_zero, List.drop_succ_cons, List.drop_zero, List.reverse_cons, List.reverse_nil, List.nil_append, List.cons_append, List.length_cons, List.length_nil, true_and, and_true, Nat.zero_le, Nat.reduceLeDiff, Nat.reduceAdd, Nat.reduceEqDiff, false_imp_iff, true_imp_iff, not_false_eq_true, not_true_eq_false, imp_self, forall_const]; try (refine ⟨fun c => ?_, fun c => ?_⟩))
  · rw [if_pos c] at hh; simp [← hh]
  · rw [if_neg c] at hh; simp [← hh]
theorem c_isPlace (m : AM) (d k : Nat) (hd : d < 12) (hk : k < 5) : AC 0 kX0_isPlace [.inl (nI d), .inl (nI k)] m (fun r u => m = u ∧ r = some 1) := by
  refine AC_of own_X0_isPlace (ls := [some (.inl (nI d)), some (.inl (nI k))]) (z := 0) (Nat.le_of_ble_eq_true rfl) rfl ?_
  have h1 : d < 2147483648 := by omega
  have h2 : k < 2147483648 := by omega
  repeat' first
    | (refine st_X0_isPlace_0 ?_; simp only [bX0_isPlace_0, exP, stP, p1, p2, pr, pobj, parr, sh0, sh1, sh2, sh3, sh4, sh5, sh6, sh7, sh8, sh9, sh10, sh11, sh12, sh13, sh14, sh15, sh16, sh17, sh18, sh19, sh20, sh21, sh22, sh23, sh24, sh25, sh26, sh27, sh28, sh29, sh30, sh31, sh32, sh33, sh34, sh35, sh36, sh37, sh38, sh39, sh40, sh41, sh42, sh43, sh44, sh45, sh46, sh47, sh48, sh49, sh50, sh51, sh52, sh53, sh54, sh55, sh56, sh57, sh58, sh59, brP, brN, swP, amask, apush, List.getElem?_cons_zero, List.getElem?_cons_succ, List.set_cons_zero, List.set_cons_succ, List.take_succ_cons, List.take_zero, List.drop_succ_cons, List.drop_zero, List.reverse_cons, List.reverse_nil, List.nil_append, List.cons_append, List.length_cons, List.length_nil, true_and, and_true, Nat.zero_le, Nat.reduceLeDiff, Nat.reduceAdd, Nat.reduceEqDiff, false_imp_iff, true_imp_iff, not_false_eq_true, not_true_eq_false, imp_self, forall_const, nI_lt0 h1, nI_lt0 h2, lit_nle hd (by omega), lit_nle hk (by omega)]; try (refine ⟨fun c => ?_, fun c => ?_⟩))
    | (refine st_X0_isPlace_4 ?_; simp only [bX0_isPlace_4, exP, stP, p1, p2, pr, pobj, parr, sh0, sh1, sh2, sh3, sh4, sh5, sh6, sh7, sh8, sh9, sh10, sh11, sh12, sh13, sh14, sh15, sh16, sh17, sh18, sh19, sh20, sh21, sh22, sh23, sh24, sh25, sh26, sh27, sh28, sh29, sh30, sh31, sh32, sh33, sh34, sh35, sh36, sh37, sh38, sh39, sh40, sh41, sh42, sh43, sh44, sh45, sh46, sh47, sh48, sh49, sh50, sh51, sh52, sh53, sh54, sh55, sh56, sh57, sh58, sh59, brP, brN, swP, amask, apush, List.getElem?_cons_zero, List.getElem?_cons_succ, List.set_cons_zero, List.set_cons_succ, List.take_succ_cons, List.take_zero, List.drop_succ_cons, List.drop_zero, List.reverse_cons, List.reverse_nil, List.nil_append, List.cons_append, List.length_cons, List.length_nil, true_and, and_true, Nat.zero_le, Nat.reduceLeDiff, Nat.reduceAdd, Nat.reduceEqDiff, false_imp_iff, true_imp_iff, not_false_eq_true, not_true_eq_false, imp_self, forall_const, nI_lt0 h1, nI_lt0 h2, lit_nle hd (by omega), lit_nle hk (by omega)]; try (refine ⟨fun c => ?_, fun c => ?_⟩))
    | (refine st_X0_isPlace_10 ?_; simp only [bX0_isPlace_10, exP, stP, p1, p2, pr, pobj, parr, sh0, sh1, sh2, sh3, sh4, sh5, sh6, sh7, sh8, sh9, sh10, sh11, sh12, sh13, sh14, sh15, sh16, sh17, sh18, sh19, sh20, sh21, sh22, sh23, sh24, sh25, sh26, sh27, sh28, sh29, sh30, sh31, sh32, sh33, sh34, sh35, sh36, sh37, sh38, sh39, sh40, sh41, sh42, sh43, sh44, sh45, sh46, sh47, sh48, sh49, sh50, sh51, sh52, sh53, sh54, sh55, sh56, sh57, sh58, sh59, brP, brN, swP, amask, apush, List.getElem?_cons_zero, List.getElem?_cons_succ, List.set_cons_zero, List.set_cons_succ, List.take_succ_cons, List.take_zero, List.drop_succ_cons, List.drop_zero, List.reverse_cons, List.reverse_nil, List.nil_append, List.cons_append, List.length_cons, List.length_nil, true_and, and_true, Nat.zero_le, Nat.reduceLeDiff, Nat.reduceAdd, Nat.reduceEqDiff, false_imp_iff, true_imp_iff, not_false_eq_true, not_true_eq_false, imp_self, forall_const, nI_lt0 h1, nI_lt0 h2, lit_nle hd (by omega), lit_nle hk (by omega)]; try (refine ⟨fun c => ?_, fun c => ?_⟩))
    | (refine st_X0_isPlace_14 ?_; simp only [bX0_isPlace_14, exP, stP, p1, p2, pr, pobj, parr, sh0, sh1, sh2, sh3, sh4, sh5, sh6, sh7, sh8, sh9, sh10, sh11, sh12, sh13, sh14, sh15, sh16, sh17, sh18, sh19, sh20, sh21, sh22, sh23, sh24, sh25, sh26, sh27, sh28, sh29, sh30, sh31, sh32, sh33, sh34, sh35, sh36, sh37, sh38, sh39, sh40, sh41, sh42, sh43, sh44, sh45, sh46, sh47, sh48, sh49, sh50, sh51, sh52, sh53, sh54, sh55, sh56, sh57, sh58, sh59, brP, brN, swP, amask, apush, List.getElem?_cons_zero, List.getElem?_cons_succ, List.set_cons_zero, List.set_cons_succ, List.take_succ_cons, List.take_zero, List.drop_succ_cons, List.drop_zero, List.reverse_cons, List.reverse_nil, List.nil_append, List.cons_append, List.length_cons, List.length_nil, true_and, and_true, Nat.zero_le, Nat.reduceLeDiff, Nat.reduceAdd, Nat.reduceEqDiff, false_imp_iff, true_imp_iff, not_false_eq_true, not_true_eq_false, imp_self, forall_const, nI_lt0 h1, nI_lt0 h2, lit_nle hd (by omega), lit_nle hk (by omega)]; try (refine ⟨fun c => ?_, fun c => ?_⟩))
    | (refine st_X0_isPlace_19 ?_; simp only [bX0_isPlace_19, exP, stP, p1, p2, pr, pobj, parr, sh0, sh1, sh2, sh3, sh4, sh5, sh6, sh7, sh8, sh9, sh10, sh11, sh12, sh13, sh14, sh15, sh16, sh17, sh18, sh19, sh20, sh21, sh22, sh23, sh24, sh25, sh26, sh27, sh28, sh29, sh30, sh31, sh32, sh33, sh34, sh35, sh36, sh37, sh38, sh39, sh40, sh41, sh42, sh43, sh44, sh45, sh46, sh47, sh48, sh49, sh50, sh51, sh52, sh53, sh54, sh55, sh56, sh57, sh58, sh59, brP, brN, swP, amask, apush, List.getElem?_cons_zero, List.getElem?_cons_succ, List.set_cons_zero, List.set_cons_succ, List.take_succ_cons, List.take_zero, List.drop_succ_cons, List.drop_zero, List.reverse_cons, List.reverse_nil, List.nil_append, List.cons_append, List.length_cons, List.length_nil, true_and, and_true, Nat.zero_le, Nat.reduceLeDiff, Nat.reduceAdd, Nat.reduceEqDiff, false_imp_iff, true_imp_iff, not_false_eq_true, not_true_eq_false, imp_self, forall_const, nI_lt0 h1, nI_lt0 h2, lit_nle hd (by omega), lit_nle hk (by omega)]; try (refine ⟨fun c => ?_, fun c => ?_⟩))
    | (refine st_X0_isPlace_23 ?_; simp only [bX0_isPlace_23, exP, stP, p1, p2, pr, pobj, parr, sh0, sh1, sh2, sh3, sh4, sh5, sh6, sh7, sh8, sh9, sh10, sh11, sh12, sh13, sh14, sh15, sh16, sh17, sh18, sh19, sh20, sh21, sh22, sh23, sh24, sh25, sh26, sh27, sh28, sh29, sh30, sh31, sh32, sh33, sh34, sh35, sh36, sh37, sh38, sh39, sh40, sh41, sh42, sh43, sh44, sh45, sh46, sh47, sh48, sh49, sh50, sh51, sh52, sh53, sh54, sh55, sh56, sh57, sh58, sh59, brP, brN, swP, amask, apush, List.getElem?_cons_zero, List.getElem?_cons_succ, List.set_cons_zero, List.set_cons_succ, List.take_succ_cons, List.take_zero, List.drop_succ_cons, List.drop_zero, List.reverse_cons, List.reverse_nil, List.nil_append, List.cons_append, List.length_cons, List.length_nil, true_and, and_true, Nat.zero_le, Nat.reduceLeDiff, Nat.reduceAdd, Nat.reduceEqDiff, false_imp_iff, true_imp_iff, not_false_eq_true, not_true_eq_false, imp_self, forall_const, nI_lt0 h1, nI_lt0 h2, lit_nle hd (by omega), lit_nle hk (by omega)]; try (refine ⟨fun c => ?_, fun c => ?_⟩))
    | (refine st_X0_isPlace_24 ?_; simp only [bX0_isPlace_24, exP, stP, p1, p2, pr, pobj, parr, sh0, sh1, sh2, sh3, sh4, sh5, sh6, sh7, sh8, sh9, sh10, sh11, sh12, sh13, sh14, sh15, sh16, sh17, sh18, sh19, sh20, sh21, sh22, sh23, sh24, sh25, sh26, sh27, sh28, sh29, sh30, sh31, sh32, sh33, sh34, sh35, sh36, sh37, sh38, sh39, sh40, sh41, sh42, sh43, sh44, sh45, sh46, sh47, sh48, sh49, sh50, sh51, sh52, sh53, sh54, sh55, sh56, sh57, sh58, sh59, brP, brN, swP, amask, apush, List.getElem?_cons_zero, List.getElem?_cons_succ, List.set_cons_zero, List.set_cons_succ, List.take_succ_cons, List.take_zero, List.drop_succ_cons, List.drop_zero, List.reverse_cons, List.reverse_nil, List.nil_append, List.cons_append, List.length_cons, List.length_nil, true_and, and_true, Nat.zero_le, Nat.reduceLeDiff, Nat.reduceAdd, Nat.reduceEqDiff, false_imp_iff, true_imp_iff, not_false_eq_true, not_true_eq_false, imp_self, forall_const, nI_lt0 h1, nI_lt0 h2, lit_nle hd (by omega), lit_nle hk (by omega)]; try (refine ⟨fun c => ?_, fun c => ?_⟩))
  all_goals simp
theorem c_of (m : AM) (d k : Nat) (hd : d < 12) (hk : k < 5) : AC 1 kX0_of [.inr 13, .inl (nI d), .inl (nI k)] m (fun r u => m = u ∧ r = some (m 14 (k * 12 + d))) := by
  refine AC_of own_X0_of (ls := [some (.inr 13), some (.inl (nI d)), some (.inl (nI k))]) (z := 0) (Nat.le_of_ble_eq_true rfl) rfl ?_
  have h2 : k * 12 + d < 60 := by omega
  refine st_X0_of_0 ?_; simp only [bX0_of_0, exP, stP, p1, p2, pr, pobj, parr, sh0, sh1, sh2, sh3, sh4, sh5, sh6, sh7, sh8, sh9, sh10, sh11, sh12, sh13, sh14, sh15, sh16, sh17, sh18, sh19, sh20, sh21, sh22, sh23, sh24, sh25, sh26, sh27, sh28, sh29, sh30, sh31, sh32, sh33, sh34, sh35, sh36, sh37, sh38, sh39, sh40, sh41, sh42, sh43, sh44, sh45, sh46, sh47, sh48, sh49, sh50, sh51, sh52, sh53, sh54, sh55, sh56, sh57, sh58, sh59, brP, brN, swP, amask, apush, List.getElem?_cons_zero, List.getElem?_cons_succ, List.set_cons_zero, List.set_cons_succ, List.take_succ_cons, List.take_zero, List.drop_succ_cons, List.drop_zero, List.reverse_cons, List.reverse_nil, List.nil_append, List.cons_append, List.length_cons, List.length_nil, true_and, and_true, Nat.zero_le, Nat.reduceLeDiff, Nat.reduceAdd, Nat.reduceEqDiff, false_imp_iff, true_imp_iff, not_false_eq_true, not_true_eq_false, imp_self, forall_const]
  refine ⟨_, ⟨0, by decide, c_isPlace m d k hd hk⟩, ?_⟩; rintro _ _ ⟨rfl, rfl⟩; simp only [exP, stP, p1, p2, pr, pobj, parr, sh0, sh1, sh2, sh3, sh4, sh5, sh6, sh7, sh8, sh9, sh10, sh11, sh12, sh13, sh14, sh15, sh16, sh17, sh18, sh19, sh20, sh21, sh22, sh23, sh24, sh25, sh26, sh27, sh28, sh29, sh30, sh31, sh32, sh33, sh34, sh35, sh36, sh37, sh38, sh39, sh40, sh41, sh42, sh43, sh44, sh45, sh46, sh47, sh48, sh49, sh50, sh51, sh52, sh53, sh54, sh55, sh56, sh57, sh58, sh59, brP, brN, swP, amask, apush, List.getElem?_cons_zero, List.getElem?_cons_succ, List.set_cons_zero, List.set_cons_succ, List.take_succ_cons, List.take_zero, List.drop_succ_cons, List.drop_zero, List.reverse_cons, List.reverse_nil, List.nil_append, List.cons_append, List.length_cons, List.length_nil, true_and, and_true, Nat.zero_le, Nat.reduceLeDiff, Nat.reduceAdd, Nat.reduceEqDiff, false_imp_iff, true_imp_iff, not_false_eq_true, not_true_eq_false, imp_self, forall_const]
  refine ⟨fun c => absurd c (by decide), fun _ => ?_⟩
  refine st_X0_of_8 ?_; simp only [bX0_of_8, exP, stP, p1, p2, pr, pobj, parr, sh0, sh1, sh2, sh3, sh4, sh5, sh6, sh7, sh8, sh9, sh10, sh11, sh12, sh13, sh14, sh15, sh16, sh17, sh18, sh19, sh20, sh21, sh22, sh23, sh24, sh25, sh26, sh27, sh28, sh29, sh30, sh31, sh32, sh33, sh34, sh35, sh36, sh37, sh38, sh39, sh40, sh41, sh42, sh43, sh44, sh45, sh46, sh47, sh48, sh49, sh50, sh51, sh52, sh53, sh54, sh55, sh56, sh57, sh58, sh59, brP, brN, swP, amask, apush, List.getElem?_cons_zero, List.getElem?_cons_succ, List.set_cons_zero, List.set_cons_succ, List.take_succ_cons, List.take_zero, List.drop_succ_cons, List.drop_zero, List.reverse_cons, List.reverse_nil, List.nil_append, List.cons_append, List.length_cons, List.length_nil, true_and, and_true, Nat.zero_le, Nat.reduceLeDiff, Nat.reduceAdd, Nat.reduceEqDiff, false_imp_iff, true_imp_iff, not_false_eq_true, not_true_eq_false, imp_self, forall_const, nI_muladd _ _ 12, nI_clamp (show k * 12 + d < 2147483648 by omega)]
  refine ⟨vp_in_nI h2 (by omega), ?_⟩
  refine st_X0_of_23 ?_; simp only [bX0_of_23, exP, stP, p1, p2, pr, pobj, parr, sh0, sh1, sh2, sh3, sh4, sh5, sh6, sh7, sh8, sh9, sh10, sh11, sh12, sh13, sh14, sh15, sh16, sh17, sh18, sh19, sh20, sh21, sh22, sh23, sh24, sh25, sh26, sh27, sh28, sh29, sh30, sh31, sh32, sh33, sh34, sh35, sh36, sh37, sh38, sh39, sh40, sh41, sh42, sh43, sh44, sh45, sh46, sh47, sh48, sh49, sh50, sh51, sh52, sh53, sh54, sh55, sh56, sh57, sh58, sh59, brP, brN, swP, amask, apush, List.getElem?_cons_zero, List.getElem?_cons_succ, List.set_cons_zero, List.set_cons_succ, List.take_succ_cons, List.take_zero, List.drop_succ_cons, List.drop_zero, List.reverse_cons, List.reverse_nil, List.nil_append, List.cons_append, List.length_cons, List.length_nil, true_and, and_true, Nat.zero_le, Nat.reduceLeDiff, Nat.reduceAdd, Nat.reduceEqDiff, false_imp_iff, true_imp_iff, not_false_eq_true, not_true_eq_false, imp_self, forall_const]
  simp
def f_areYears (f l : Int32) : Int32 := if f < 0 then 0 else if l < f then 0 else if 3000 < l then 0 else 1
theorem c_areYears (m : AM) (f l : Int32) : AC 0 kX2_areYears [.inl f, .inl l] m (fun r u => m = u ∧ r = some (f_areYears f l)) := by
  refine AC_of own_X2_areYears (ls := [some (.inl f), some (.inl l)]) (z := 0) (Nat.le_of_ble_eq_true rfl) rfl ?_
  repeat' first
    | (refine st_X2_areYears_0 ?_; simp only [bX2_areYears_0, exP, stP, p1, p2, pr, pobj, parr, sh0, sh1, sh2, sh3, sh4, sh5, sh6, sh7, sh8, sh9, sh10, sh11, sh12, sh13, sh14, sh15, sh16, sh17, sh18, sh19, sh20, sh21, sh22, sh23, sh24, sh25, sh26, sh27, sh28, sh29, sh30, sh31, sh32, sh33, sh34, sh35, sh36, sh37, sh38, sh39, sh40, sh41, sh42, sh43, sh44, sh45, sh46, sh47, sh48, sh49, sh50, sh51, sh52, sh53, sh54, sh55, sh56, sh57, sh58, sh59, brP, brN, swP, amask, apush, List.getElem?_cons_zero, List.getElem?_cons_succ, List.set_cons_zero, List.set_cons_succ, List.take_succ_cons, List.take_zero, List.drop_succ_cons, List.drop_zero, List.reverse_cons, List.reverse_nil, List.nil_append, List.cons_append, List.length_cons, List.length_nil, true_and, and_true, Nat.zero_le, Nat.reduceLeDiff, Nat.reduceAdd, Nat.reduceEqDiff, false_imp_iff, true_imp_iff, not_false_eq_true, not_true_eq_false, imp_self, forall_const]; try (refine ⟨fun c => ?_, fun c => ?_⟩))
    | (refine st_X2_areYears_4 ?_; simp only [bX2_areYears_4, exP, stP, p1, p2, pr, pobj, parr, sh0, sh1, sh2, sh3, sh4, sh5, sh6, sh7, sh8, sh9, sh10, sh11, sh12, sh13, sh14, sh15, sh16, sh17, sh18, sh19, sh20, sh21, sh22, sh23, sh24, sh25, sh26, sh27, sh28, sh29, sh30, sh31, sh32, sh33, sh34, sh35, sh36, sh37, sh38, sh39, sh40, sh41, sh42, sh43, sh44, sh45, sh46, sh47, sh48, sh49, sh50, sh51, sh52, sh53, sh54, sh55, sh56, sh57, sh58, sh59, brP, brN, swP, amask, apush, List.getElem?_cons_zero, List.getElem?_cons_succ, List.set_cons_zero, List.set_cons_succ, List.take_succ_cons, List.take_zero, List.drop_succ_cons, List.drop_zero, List.reverse_cons, List.reverse_nil, List.nil_append, List.cons_append, List.length_cons, List.length_nil, true_and, and_true, Nat.zero_le, Nat.reduceLeDiff, Nat.reduceAdd, Nat.reduceEqDiff, false_imp_iff, true_imp_iff, not_false_eq_true, not_true_eq_false, imp_self, forall_const]; try (refine ⟨fun c => ?_, fun c => ?_⟩))
    | (refine st_X2_areYears_9 ?_; simp only [bX2_areYears_9, exP, stP, p1, p2, pr, pobj, parr, sh0, sh1, sh2, sh3, sh4, sh5, sh6, sh7, sh8, sh9, sh10, sh11, sh12, sh13, sh14, sh15, sh16, sh17, sh18, sh19, sh20, sh21, sh22, sh23, sh24, sh25, sh26, sh27, sh28, sh29, sh30, sh31, sh32, sh33, sh34, sh35, sh36, sh37, sh38, sh39, sh40, sh41, sh42, sh43, sh44, sh45, sh46, sh47, sh48, sh49, sh50, sh51, sh52, sh53, sh54, sh55, sh56, sh57, sh58, sh59, brP, brN, swP, amask, apush, List.getElem?_cons_zero, List.getElem?_cons_succ, List.set_cons_zero, List.set_cons_succ, List.take_succ_cons, List.take_zero, List.drop_succ_cons, List.drop_zero, List.reverse_cons, List.reverse_nil, List.nil_append, List.cons_append, List.length_cons, List.length_nil, true_and, and_true, Nat.zero_le, Nat.reduceLeDiff, Nat.reduceAdd, Nat.reduceEqDiff, false_imp_iff, true_imp_iff, not_false_eq_true, not_true_eq_false, imp_self, forall_const]; try (refine ⟨fun c => ?_, fun c => ?_⟩))
    | (refine st_X2_areYears_16 ?_; simp only [bX2_areYears_16, exP, stP, p1, p2, pr, pobj, parr, sh0, sh1, sh2, sh3, sh4, sh5, sh6, sh7, sh8, sh9, sh10, sh11, sh12, sh13, sh14, sh15, sh16, sh17, sh18, sh19, sh20, sh21, sh22, sh23, sh24, sh25, sh26, sh27, sh28, sh29, sh30, sh31, sh32, sh33, sh34, sh35, sh36, sh37, sh38, sh39, sh40, sh41, sh42, sh43, sh44, sh45, sh46, sh47, sh48, sh49, sh50, sh51, sh52, sh53, sh54, sh55, sh56, sh57, sh58, sh59, brP, brN, swP, amask, apush, List.getElem?_cons_zero, List.getElem?_cons_succ, List.set_cons_zero, List.set_cons_succ, List.take_succ_cons, List.take_zero, List.drop_succ_cons, List.drop_zero, List.reverse_cons, List.reverse_nil, List.nil_append, List.cons_append, List.length_cons, List.length_nil, true_and, and_true, Nat.zero_le, Nat.reduceLeDiff, Nat.reduceAdd, Nat.reduceEqDiff, false_imp_iff, true_imp_iff, not_false_eq_true, not_true_eq_false, imp_self, forall_const]; try (refine ⟨fun c => ?_, fun c => ?_⟩))
    | (refine st_X2_areYears_20 ?_; simp only [bX2_areYears_20, exP, stP, p1, p2, pr, pobj, parr, sh0, sh1, sh2, sh3, sh4, sh5, sh6, sh7, sh8, sh9, sh10, sh11, sh12, sh13, sh14, sh15, sh16, sh17, sh18, sh19, sh20, sh21, sh22, sh23, sh24, sh25, sh26, sh27, sh28, sh29, sh30, sh31, sh32, sh33, sh34, sh35, sh36, sh37, sh38, sh39, sh40, sh41, sh42, sh43, sh44, sh45, sh46, sh47, sh48, sh49, sh50, sh51, sh52, sh53, sh54, sh55, sh56, sh57, sh58, sh59, brP, brN, swP, amask, apush, List.getElem?_cons_zero, List.getElem?_cons_succ, List.set_cons_zero, List.set_cons_succ, List.take_succ_cons, List.take_zero, List.drop_succ_cons, List.drop_zero, List.reverse_cons, List.reverse_nil, List.nil_append, List.cons_append, List.length_cons, List.length_nil, true_and, and_true, Nat.zero_le, Nat.reduceLeDiff, Nat.reduceAdd, Nat.reduceEqDiff, false_imp_iff, true_imp_iff, not_false_eq_true, not_true_eq_false, imp_self, forall_const]; try (refine ⟨fun c => ?_, fun c => ?_⟩))
    | (refine st_X2_areYears_21 ?_; simp only [bX2_areYears_21, exP, stP, p1, p2, pr, pobj, parr, sh0, sh1, sh2, sh3, sh4, sh5, sh6, sh7, sh8, sh9, sh10, sh11, sh12, sh13, sh14, sh15, sh16, sh17, sh18, sh19, sh20, sh21, sh22, sh23, sh24, sh25, sh26, sh27, sh28, sh29, sh30, sh31, sh32, sh33, sh34, sh35, sh36, sh37, sh38, sh39, sh40, sh41, sh42, sh43, sh44, sh45, sh46, sh47, sh48, sh49, sh50, sh51, sh52, sh53, sh54, sh55, sh56, sh57, sh58, sh59, brP, brN, swP, amask, apush, List.getElem?_cons_zero, List.getElem?_cons_succ, List.set_cons_zero, List.set_cons_succ, List.take_succ_cons, List.take_zero, List.drop_succ_cons, List.drop_zero, List.reverse_cons, List.reverse_nil, List.nil_append, List.cons_append, List.length_cons, List.length_nil, true_and, and_true, Nat.zero_le, Nat.reduceLeDiff, Nat.reduceAdd, Nat.reduceEqDiff, false_imp_iff, true_imp_iff, not_false_eq_true, not_true_eq_false, imp_self, forall_const]; try (refine ⟨fun c => ?_, fun c => ?_⟩))
  all_goals (first | contradiction | (simp only [f_areYears, *, if_true, if_false, not_true_eq_false, not_false_eq_true, true_and, and_true]; done) | (simp only [f_areYears, *, if_true, if_false, not_true_eq_false, not_false_eq_true, true_and, and_true]; simp; done) | (simp [f_areYears, *]; done))
def lenS (r : Nat) : Nat := match r with
  | 1 => 20
  | 4 => 10
  | 7 => 8
  | _ => 12
def isS (r : Nat) : Prop := r = 1 ∨ r = 4 ∨ r = 7 ∨ r = 10
theorem isS_sh {r : Nat} (h : isS r) : shF r = some (.inr (2, [some (r + 1), some (r + 2), none])) ∧ shF (r + 1) = some (.inl (0, lenS r)) ∧ shF (r + 2) = some (.inl (0, lenS r)) ∧ lenS r ≤ 20 := by
  rcases h with rfl | rfl | rfl | rfl <;> exact ⟨rfl, rfl, rfl, by decide⟩
def f_has (r : Nat) (i n : Int32) : Int32 := if i < 0 then 0 else if n ≤ i then 0 else if nI (lenS r) ≤ i then 0 else 1
theorem c_has (m : AM) (i : Int32) (r : Nat) (hr : isS r) : AC 0 kX2_has [.inr r, .inl i] m (fun z u => m = u ∧ z = some (f_has r i (m r 2))) := by
  obtain ⟨h0, h1, h2, -⟩ := isS_sh hr
  refine AC_of own_X2_has (ls := [some (.inr r), some (.inl i)]) (z := 0) (Nat.le_of_ble_eq_true rfl) rfl ?_
  repeat' first
    | (refine st_X2_has_0 ?_; simp only [bX2_has_0, exP, stP, p1, p2, pr, pobj, parr, sh0, sh1, sh2, sh3, sh4, sh5, sh6, sh7, sh8, sh9, sh10, sh11, sh12, sh13, sh14, sh15, sh16, sh17, sh18, sh19, sh20, sh21, sh22, sh23, sh24, sh25, sh26, sh27, sh28, sh29, sh30, sh31, sh32, sh33, sh34, sh35, sh36, sh37, sh38, sh39, sh40, sh41, sh42, sh43, sh44, sh45, sh46, sh47, sh48, sh49, sh50, sh51, sh52, sh53, sh54, sh55, sh56, sh57, sh58, sh59, brP, brN, swP, amask, apush, List.getElem?_cons_zero, List.getElem?_cons_succ, List.set_cons_zero, List.set_cons_succ, List.take_succ_cons, List.take_zero, List.drop_succ_cons, List.drop_zero, List.reverse_cons, List.reverse_nil, List.nil_append, List.cons_append, List.length_cons, List.length_nil, true_and, and_true, Nat.zero_le, Nat.reduceLeDiff, Nat.reduceAdd, Nat.reduceEqDiff, false_imp_iff, true_imp_iff, not_false_eq_true, not_true_eq_false, imp_self, forall_const, h0, h1, h2]; try (refine ⟨fun c => ?_, fun c => ?_⟩))
    | (refine st_X2_has_4 ?_; simp only [bX2_has_4, exP, stP, p1, p2, pr, pobj, parr, sh0, sh1, sh2, sh3, sh4, sh5, sh6, sh7, sh8, sh9, sh10, sh11, sh12, sh13, sh14, sh15, sh16, sh17, sh18, sh19, sh20, sh21, sh22, sh23, sh24, sh25, sh26, sh27, sh28, sh29, sh30, sh31, sh32, sh33, sh34, sh35, sh36, sh37, sh38, sh39, sh40, sh41, sh42, sh43, sh44, sh45, sh46, sh47, sh48, sh49, sh50, sh51, sh52, sh53, sh54, sh55, sh56, sh57, sh58, sh59, brP, brN, swP, amask, apush, List.getElem?_cons_zero, List.getElem?_cons_succ, List.set_cons_zero, List.set_cons_succ, List.take_succ_cons, List.take_zero, List.drop_succ_cons, List.drop_zero, List.reverse_cons, List.reverse_nil, List.nil_append, List.cons_append, List.length_cons, List.length_nil, true_and, and_true, Nat.zero_le, Nat.reduceLeDiff, Nat.reduceAdd, Nat.reduceEqDiff, false_imp_iff, true_imp_iff, not_false_eq_true, not_true_eq_false, imp_self, forall_const, h0, h1, h2]; try (refine ⟨fun c => ?_, fun c => ?_⟩))
    | (refine st_X2_has_12 ?_; simp only [bX2_has_12, exP, stP, p1, p2, pr, pobj, parr, sh0, sh1, sh2, sh3, sh4, sh5, sh6, sh7, sh8, sh9, sh10, sh11, sh12, sh13, sh14, sh15, sh16, sh17, sh18, sh19, sh20, sh21, sh22, sh23, sh24, sh25, sh26, sh27, sh28, sh29, sh30, sh31, sh32, sh33, sh34, sh35, sh36, sh37, sh38, sh39, sh40, sh41, sh42, sh43, sh44, sh45, sh46, sh47, sh48, sh49, sh50, sh51, sh52, sh53, sh54, sh55, sh56, sh57, sh58, sh59, brP, brN, swP, amask, apush, List.getElem?_cons_zero, List.getElem?_cons_succ, List.set_cons_zero, List.set_cons_succ, List.take_succ_cons, List.take_zero, List.drop_succ_cons, List.drop_zero, List.reverse_cons, List.reverse_nil, List.nil_append, List.cons_append, List.length_cons, List.length_nil, true_and, and_true, Nat.zero_le, Nat.reduceLeDiff, Nat.reduceAdd, Nat.reduceEqDiff, false_imp_iff, true_imp_iff, not_false_eq_true, not_true_eq_false, imp_self, forall_const, h0, h1, h2]; try (refine ⟨fun c => ?_, fun c => ?_⟩))
    | (refine st_X2_has_21 ?_; simp only [bX2_has_21, exP, stP, p1, p2, pr, pobj, parr, sh0, sh1, sh2, sh3, sh4, sh5, sh6, sh7, sh8, sh9, sh10, sh11, sh12, sh13, sh14, sh15, sh16, sh17, sh18, sh19, sh20, sh21, sh22, sh23, sh24, sh25, sh26, sh27, sh28, sh29, sh30, sh31, sh32, sh33, sh34, sh35, sh36, sh37, sh38, sh39, sh40, sh41, sh42, sh43, sh44, sh45, sh46, sh47, sh48, sh49, sh50, sh51, sh52, sh53, sh54, sh55, sh56, sh57, sh58, sh59, brP, brN, swP, amask, apush, List.getElem?_cons_zero, List.getElem?_cons_succ, List.set_cons_zero, List.set_cons_succ, List.take_succ_cons, List.take_zero, List.drop_succ_cons, List.drop_zero, List.reverse_cons, List.reverse_nil, List.nil_append, List.cons_append, List.length_cons, List.length_nil, true_and, and_true, Nat.zero_le, Nat.reduceLeDiff, Nat.reduceAdd, Nat.reduceEqDiff, false_imp_iff, true_imp_iff, not_false_eq_true, not_true_eq_false, imp_self, forall_const, h0, h1, h2]; try (refine ⟨fun c => ?_, fun c => ?_⟩))
    | (refine st_X2_has_30 ?_; simp only [bX2_has_30, exP, stP, p1, p2, pr, pobj, parr, sh0, sh1, sh2, sh3, sh4, sh5, sh6, sh7, sh8, sh9, sh10, sh11, sh12, sh13, sh14, sh15, sh16, sh17, sh18, sh19, sh20, sh21, sh22, sh23, sh24, sh25, sh26, sh27, sh28, sh29, sh30, sh31, sh32, sh33, sh34, sh35, sh36, sh37, sh38, sh39, sh40, sh41, sh42, sh43, sh44, sh45, sh46, sh47, sh48, sh49, sh50, sh51, sh52, sh53, sh54, sh55, sh56, sh57, sh58, sh59, brP, brN, swP, amask, apush, List.getElem?_cons_zero, List.getElem?_cons_succ, List.set_cons_zero, List.set_cons_succ, List.take_succ_cons, List.take_zero, List.drop_succ_cons, List.drop_zero, List.reverse_cons, List.reverse_nil, List.nil_append, List.cons_append, List.length_cons, List.length_nil, true_and, and_true, Nat.zero_le, Nat.reduceLeDiff, Nat.reduceAdd, Nat.reduceEqDiff, false_imp_iff, true_imp_iff, not_false_eq_true, not_true_eq_false, imp_self, forall_const, h0, h1, h2]; try (refine ⟨fun c => ?_, fun c => ?_⟩))
    | (refine st_X2_has_34 ?_; simp only [bX2_has_34, exP, stP, p1, p2, pr, pobj, parr, sh0, sh1, sh2, sh3, sh4, sh5, sh6, sh7, sh8, sh9, sh10, sh11, sh12, sh13, sh14, sh15, sh16, sh17, sh18, sh19, sh20, sh21, sh22, sh23, sh24, sh25, sh26, sh27, sh28, sh29, sh30, sh31, sh32, sh33, sh34, sh35, sh36, sh37, sh38, sh39, sh40, sh41, sh42, sh43, sh44, sh45, sh46, sh47, sh48, sh49, sh50, sh51, sh52, sh53, sh54, sh55, sh56, sh57, sh58, sh59, brP, brN, swP, amask, apush, List.getElem?_cons_zero, List.getElem?_cons_succ, List.set_cons_zero, List.set_cons_succ, List.take_succ_cons, List.take_zero, List.drop_succ_cons, List.drop_zero, List.reverse_cons, List.reverse_nil, List.nil_append, List.cons_append, List.length_cons, List.length_nil, true_and, and_true, Nat.zero_le, Nat.reduceLeDiff, Nat.reduceAdd, Nat.reduceEqDiff, false_imp_iff, true_imp_iff, not_false_eq_true, not_true_eq_false, imp_self, forall_const, h0, h1, h2]; try (refine ⟨fun c => ?_, fun c => ?_⟩))
    | (refine st_X2_has_35 ?_; simp only [bX2_has_35, exP, stP, p1, p2, pr, pobj, parr, sh0, sh1, sh2, sh3, sh4, sh5, sh6, sh7, sh8, sh9, sh10, sh11, sh12, sh13, sh14, sh15, sh16, sh17, sh18, sh19, sh20, sh21, sh22, sh23, sh24, sh25, sh26, sh27, sh28, sh29, sh30, sh31, sh32, sh33, sh34, sh35, sh36, sh37, sh38, sh39, sh40, sh41, sh42, sh43, sh44, sh45, sh46, sh47, sh48, sh49, sh50, sh51, sh52, sh53, sh54, sh55, sh56, sh57, sh58, sh59, brP, brN, swP, amask, apush, List.getElem?_cons_zero, List.getElem?_cons_succ, List.set_cons_zero, List.set_cons_succ, List.take_succ_cons, List.take_zero, List.drop_succ_cons, List.drop_zero, List.reverse_cons, List.reverse_nil, List.nil_append, List.cons_append, List.length_cons, List.length_nil, true_and, and_true, Nat.zero_le, Nat.reduceLeDiff, Nat.reduceAdd, Nat.reduceEqDiff, false_imp_iff, true_imp_iff, not_false_eq_true, not_true_eq_false, imp_self, forall_const, h0, h1, h2]; try (refine ⟨fun c => ?_, fun c => ?_⟩))
  all_goals (first | contradiction | (simp only [f_has, *, if_true, if_false, not_true_eq_false, not_false_eq_true, true_and, and_true]; done) | (simp only [f_has, *, if_true, if_false, not_true_eq_false, not_false_eq_true, true_and, and_true]; simp; done) | (simp [f_has, *]; done))
def ush (x k : Int32) : Int32 := (x.toUInt32 >>> (k.toUInt32 &&& Int32.toUInt32 31)).toInt32
def f_bc1 (x : Int32) : Int32 := x - (ush x 1 &&& 1431655765)
def f_bc2 (x : Int32) : Int32 := (x &&& 858993459) + (ush x 2 &&& 858993459)
def f_bc3 (x : Int32) : Int32 := (x + ush x 4) &&& 252645135
def f_bc4 (x : Int32) : Int32 := x + ush x 8
def f_bc5 (x : Int32) : Int32 := (x + ush x 16) &&& 63
def f_bc (x : Int32) : Int32 := f_bc5 (f_bc4 (f_bc3 (f_bc2 (f_bc1 x))))
theorem c_bitCount (m : AM) (x : Int32) : AC 0 kJ6_bitCount [.inl x] m (fun r u => m = u ∧ r = some (f_bc x)) := by
  refine AC_of own_J6_bitCount (ls := [some (.inl x)]) (z := 0) (Nat.le_of_ble_eq_true rfl) rfl ?_
  refine st_J6_bitCount_0 ?_; simp only [bJ6_bitCount_0, exP, stP, p1, p2, pr, pobj, parr, sh0, sh1, sh2, sh3, sh4, sh5, sh6, sh7, sh8, sh9, sh10, sh11, sh12, sh13, sh14, sh15, sh16, sh17, sh18, sh19, sh20, sh21, sh22, sh23, sh24, sh25, sh26, sh27, sh28, sh29, sh30, sh31, sh32, sh33, sh34, sh35, sh36, sh37, sh38, sh39, sh40, sh41, sh42, sh43, sh44, sh45, sh46, sh47, sh48, sh49, sh50, sh51, sh52, sh53, sh54, sh55, sh56, sh57, sh58, sh59, brP, brN, swP, amask, apush, List.getElem?_cons_zero, List.getElem?_cons_succ, List.set_cons_zero, List.set_cons_succ, List.take_succ_cons, List.take_zero, List.drop_succ_cons, List.drop_zero, List.reverse_cons, List.reverse_nil, List.nil_append, List.cons_append, List.length_cons, List.length_nil, true_and, and_true, Nat.zero_le, Nat.reduceLeDiff, Nat.reduceAdd, Nat.reduceEqDiff, false_imp_iff, true_imp_iff, not_false_eq_true, not_true_eq_false, imp_self, forall_const]
  refine ⟨Or.inl trivial, ?_⟩
  rfl
def sumBC (m : AM) (d : Nat) : Nat → Int32
  | 0 => 0
  | k + 1 => sumBC m d k + f_bc (m 14 (k * 12 + d))
theorem w_many (m : AM) (d : Nat) (hd : d < 12) : ∀ n j : Nat, j + n = 5 → AW 2 kX0_many (fun r u => m = u ∧ r = some (sumBC m d 5)) 4 [some (.inr 13), some (.inl (nI d)), some (.inl (sumBC m d j)), some (.inl (nI j))] [] m
  | 0, j, h => by
    obtain rfl : j = 5 := by omega
    refine st_X0_many_4 ?_; simp only [bX0_many_4, exP, stP, p1, p2, pr, pobj, parr, sh0, sh1, sh2, sh3, sh4, sh5, sh6, sh7, sh8, sh9, sh10, sh11, sh12, sh13, sh14, sh15, sh16, sh17, sh18, sh19, sh20, sh21, sh22, sh23, sh24, sh25, sh26, sh27, sh28, sh29, sh30, sh31, sh32, sh33, sh34, sh35, sh36, sh37, sh38, sh39, sh40, sh41, sh42, sh43, sh44, sh45, sh46, sh47, sh48, sh49, sh50, sh51, sh52, sh53, sh54, sh55, sh56, sh57, sh58, sh59, brP, brN, swP, amask, apush, List.getElem?_cons_zero, List.getElem?_cons_succ, List.set_cons_zero, List.set_cons_succ, List.take_succ_cons, List.take_zero, List.drop_succ_cons, List.drop_zero, List.reverse_cons, List.reverse_nil, List.nil_append, List.cons_append, List.length_cons, List.length_nil, true_and, and_true, Nat.zero_le, Nat.reduceLeDiff, Nat.reduceAdd, Nat.reduceEqDiff, false_imp_iff, true_imp_iff, not_false_eq_true, not_true_eq_false, imp_self, forall_const, lit_le (k := 5) (n := 5) (by omega) (by omega)]
    refine st_X0_many_27 ?_; simp only [bX0_many_27, exP, stP, p1, p2, pr, pobj, parr, sh0, sh1, sh2, sh3, sh4, sh5, sh6, sh7, sh8, sh9, sh10, sh11, sh12, sh13, sh14, sh15, sh16, sh17, sh18, sh19, sh20, sh21, sh22, sh23, sh24, sh25, sh26, sh27, sh28, sh29, sh30, sh31, sh32, sh33, sh34, sh35, sh36, sh37, sh38, sh39, sh40, sh41, sh42, sh43, sh44, sh45, sh46, sh47, sh48, sh49, sh50, sh51, sh52, sh53, sh54, sh55, sh56, sh57, sh58, sh59, brP, brN, swP, amask, apush, List.getElem?_cons_zero, List.getElem?_cons_succ, List.set_cons_zero, List.set_cons_succ, List.take_succ_cons, List.take_zero, List.drop_succ_cons, List.drop_zero, List.reverse_cons, List.reverse_nil, List.nil_append, List.cons_append, List.length_cons, List.length_nil, true_and, and_true, Nat.zero_le, Nat.reduceLeDiff, Nat.reduceAdd, Nat.reduceEqDiff, false_imp_iff, true_imp_iff, not_false_eq_true, not_true_eq_false, imp_self, forall_const]
    simp
  | n + 1, j, h => by
    refine st_X0_many_4 ?_; simp only [bX0_many_4, exP, stP, p1, p2, pr, pobj, parr, sh0, sh1, sh2, sh3, sh4, sh5, sh6, sh7, sh8, sh9, sh10, sh11, sh12, sh13, sh14, sh15, sh16, sh17, sh18, sh19, sh20, sh21, sh22, sh23, sh24, sh25, sh26, sh27, sh28, sh29, sh30, sh31, sh32, sh33, sh34, sh35, sh36, sh37, sh38, sh39, sh40, sh41, sh42, sh43, sh44, sh45, sh46, sh47, sh48, sh49, sh50, sh51, sh52, sh53, sh54, sh55, sh56, sh57, sh58, sh59, brP, brN, swP, amask, apush, List.getElem?_cons_zero, List.getElem?_cons_succ, List.set_cons_zero, List.set_cons_succ, List.take_succ_cons, List.take_zero, List.drop_succ_cons, List.drop_zero, List.reverse_cons, List.reverse_nil, List.nil_append, List.cons_append, List.length_cons, List.length_nil, true_and, and_true, Nat.zero_le, Nat.reduceLeDiff, Nat.reduceAdd, Nat.reduceEqDiff, false_imp_iff, true_imp_iff, not_false_eq_true, not_true_eq_false, imp_self, forall_const, lit_nle (k := 5) (n := j) (by omega) (by omega)]
    refine st_X0_many_9 ?_; simp only [bX0_many_9, exP, stP, p1, p2, pr, pobj, parr, sh0, sh1, sh2, sh3, sh4, sh5, sh6, sh7, sh8, sh9, sh10, sh11, sh12, sh13, sh14, sh15, sh16, sh17, sh18, sh19, sh20, sh21, sh22, sh23, sh24, sh25, sh26, sh27, sh28, sh29, sh30, sh31, sh32, sh33, sh34, sh35, sh36, sh37, sh38, sh39, sh40, sh41, sh42, sh43, sh44, sh45, sh46, sh47, sh48, sh49, sh50, sh51, sh52, sh53, sh54, sh55, sh56, sh57, sh58, sh59, brP, brN, swP, amask, apush, List.getElem?_cons_zero, List.getElem?_cons_succ, List.set_cons_zero, List.set_cons_succ, List.take_succ_cons, List.take_zero, List.drop_succ_cons, List.drop_zero, List.reverse_cons, List.reverse_nil, List.nil_append, List.cons_append, List.length_cons, List.length_nil, true_and, and_true, Nat.zero_le, Nat.reduceLeDiff, Nat.reduceAdd, Nat.reduceEqDiff, false_imp_iff, true_imp_iff, not_false_eq_true, not_true_eq_false, imp_self, forall_const]
    refine ⟨_, ⟨1, by decide, c_of m d j hd (by omega)⟩, ?_⟩; rintro _ _ ⟨rfl, rfl⟩; simp only [exP, stP, p1, p2, pr, pobj, parr, sh0, sh1, sh2, sh3, sh4, sh5, sh6, sh7, sh8, sh9, sh10, sh11, sh12, sh13, sh14, sh15, sh16, sh17, sh18, sh19, sh20, sh21, sh22, sh23, sh24, sh25, sh26, sh27, sh28, sh29, sh30, sh31, sh32, sh33, sh34, sh35, sh36, sh37, sh38, sh39, sh40, sh41, sh42, sh43, sh44, sh45, sh46, sh47, sh48, sh49, sh50, sh51, sh52, sh53, sh54, sh55, sh56, sh57, sh58, sh59, brP, brN, swP, amask, apush, List.getElem?_cons_zero, List.getElem?_cons_succ, List.set_cons_zero, List.set_cons_succ, List.take_succ_cons, List.take_zero, List.drop_succ_cons, List.drop_zero, List.reverse_cons, List.reverse_nil, List.nil_append, List.cons_append, List.length_cons, List.length_nil, true_and, and_true, Nat.zero_le, Nat.reduceLeDiff, Nat.reduceAdd, Nat.reduceEqDiff, false_imp_iff, true_imp_iff, not_false_eq_true, not_true_eq_false, imp_self, forall_const]
    refine ⟨_, ⟨0, by decide, c_bitCount _ _⟩, ?_⟩; rintro _ _ ⟨rfl, rfl⟩; simp only [exP, stP, p1, p2, pr, pobj, parr, sh0, sh1, sh2, sh3, sh4, sh5, sh6, sh7, sh8, sh9, sh10, sh11, sh12, sh13, sh14, sh15, sh16, sh17, sh18, sh19, sh20, sh21, sh22, sh23, sh24, sh25, sh26, sh27, sh28, sh29, sh30, sh31, sh32, sh33, sh34, sh35, sh36, sh37, sh38, sh39, sh40, sh41, sh42, sh43, sh44, sh45, sh46, sh47, sh48, sh49, sh50, sh51, sh52, sh53, sh54, sh55, sh56, sh57, sh58, sh59, brP, brN, swP, amask, apush, List.getElem?_cons_zero, List.getElem?_cons_succ, List.set_cons_zero, List.set_cons_succ, List.take_succ_cons, List.take_zero, List.drop_succ_cons, List.drop_zero, List.reverse_cons, List.reverse_nil, List.nil_append, List.cons_append, List.length_cons, List.length_nil, true_and, and_true, Nat.zero_le, Nat.reduceLeDiff, Nat.reduceAdd, Nat.reduceEqDiff, false_imp_iff, true_imp_iff, not_false_eq_true, not_true_eq_false, imp_self, forall_const]
    rw [nI_1]
    exact w_many _ d hd n (j + 1) (by omega)
theorem c_many (m : AM) (d : Nat) (hd : d < 12) : AC 2 kX0_many [.inr 13, .inl (nI d)] m (fun r u => m = u ∧ r = some (sumBC m d 5)) := by
  refine AC_of own_X0_many (ls := [some (.inr 13), some (.inl (nI d)), none, none]) (z := 2) (Nat.le_of_ble_eq_true rfl) rfl ?_
  refine st_X0_many_0 ?_; simp only [bX0_many_0, exP, stP, p1, p2, pr, pobj, parr, sh0, sh1, sh2, sh3, sh4, sh5, sh6, sh7, sh8, sh9, sh10, sh11, sh12, sh13, sh14, sh15, sh16, sh17, sh18, sh19, sh20, sh21, sh22, sh23, sh24, sh25, sh26, sh27, sh28, sh29, sh30, sh31, sh32, sh33, sh34, sh35, sh36, sh37, sh38, sh39, sh40, sh41, sh42, sh43, sh44, sh45, sh46, sh47, sh48, sh49, sh50, sh51, sh52, sh53, sh54, sh55, sh56, sh57, sh58, sh59, brP, brN, swP, amask, apush, List.getElem?_cons_zero, List.getElem?_cons_succ, List.set_cons_zero, List.set_cons_succ, List.take_succ_cons, List.take_zero, List.drop_succ_cons, List.drop_zero, List.reverse_cons, List.reverse_nil, List.nil_append, List.cons_append, List.length_cons, List.length_nil, true_and, and_true, Nat.zero_le, Nat.reduceLeDiff, Nat.reduceAdd, Nat.reduceEqDiff, false_imp_iff, true_imp_iff, not_false_eq_true, not_true_eq_false, imp_self, forall_const]
  exact w_many m d hd 5 0 rfl
def f_put (m : AM) (d k w : Nat) : Bool := !bt (m 14 (k * 12 + d)) w && decide (sumBC m d 5 < 8)
def g_put (m : AM) (d k w : Nat) : AM := aup m 14 (upd (m 14) (k * 12 + d) (m 14 (k * 12 + d) ||| ((1 : Int32) <<< (nI w &&& 31))))
theorem c_put (m : AM) (d k w : Nat) (hd : d < 12) (hk : k < 5) (hw : w < 32) : AC 3 kX0_put [.inr 13, .inl (nI d), .inl (nI k), .inl (nI w)] m (fun r u => r = some (b01 (f_put m d k w)) ∧ (if f_put m d k w then g_put m d k w else m) = u) := by
  refine AC_of own_X0_put (ls := [some (.inr 13), some (.inl (nI d)), some (.inl (nI k)), some (.inl (nI w))]) (z := 0) (Nat.le_of_ble_eq_true rfl) rfl ?_
  have h2 : k * 12 + d < 60 := by omega
  refine st_X0_put_0 ?_; simp only [bX0_put_0, exP, stP, p1, p2, pr, pobj, parr, sh0, sh1, sh2, sh3, sh4, sh5, sh6, sh7, sh8, sh9, sh10, sh11, sh12, sh13, sh14, sh15, sh16, sh17, sh18, sh19, sh20, sh21, sh22, sh23, sh24, sh25, sh26, sh27, sh28, sh29, sh30, sh31, sh32, sh33, sh34, sh35, sh36, sh37, sh38, sh39, sh40, sh41, sh42, sh43, sh44, sh45, sh46, sh47, sh48, sh49, sh50, sh51, sh52, sh53, sh54, sh55, sh56, sh57, sh58, sh59, brP, brN, swP, amask, apush, List.getElem?_cons_zero, List.getElem?_cons_succ, List.set_cons_zero, List.set_cons_succ, List.take_succ_cons, List.take_zero, List.drop_succ_cons, List.drop_zero, List.reverse_cons, List.reverse_nil, List.nil_append, List.cons_append, List.length_cons, List.length_nil, true_and, and_true, Nat.zero_le, Nat.reduceLeDiff, Nat.reduceAdd, Nat.reduceEqDiff, false_imp_iff, true_imp_iff, not_false_eq_true, not_true_eq_false, imp_self, forall_const]
  refine ⟨_, ⟨0, by decide, c_isPlace m d k hd hk⟩, ?_⟩; rintro _ _ ⟨rfl, rfl⟩; simp only [exP, stP, p1, p2, pr, pobj, parr, sh0, sh1, sh2, sh3, sh4, sh5, sh6, sh7, sh8, sh9, sh10, sh11, sh12, sh13, sh14, sh15, sh16, sh17, sh18, sh19, sh20, sh21, sh22, sh23, sh24, sh25, sh26, sh27, sh28, sh29, sh30, sh31, sh32, sh33, sh34, sh35, sh36, sh37, sh38, sh39, sh40, sh41, sh42, sh43, sh44, sh45, sh46, sh47, sh48, sh49, sh50, sh51, sh52, sh53, sh54, sh55, sh56, sh57, sh58, sh59, brP, brN, swP, amask, apush, List.getElem?_cons_zero, List.getElem?_cons_succ, List.set_cons_zero, List.set_cons_succ, List.take_succ_cons, List.take_zero, List.drop_succ_cons, List.drop_zero, List.reverse_cons, List.reverse_nil, List.nil_append, List.cons_append, List.length_cons, List.length_nil, true_and, and_true, Nat.zero_le, Nat.reduceLeDiff, Nat.reduceAdd, Nat.reduceEqDiff, false_imp_iff, true_imp_iff, not_false_eq_true, not_true_eq_false, imp_self, forall_const]
  refine ⟨fun c => absurd c (by decide), fun _ => ?_⟩
  refine st_X0_put_8 ?_; simp only [bX0_put_8, exP, stP, p1, p2, pr, pobj, parr, sh0, sh1, sh2, sh3, sh4, sh5, sh6, sh7, sh8, sh9, sh10, sh11, sh12, sh13, sh14, sh15, sh16, sh17, sh18, sh19, sh20, sh21, sh22, sh23, sh24, sh25, sh26, sh27, sh28, sh29, sh30, sh31, sh32, sh33, sh34, sh35, sh36, sh37, sh38, sh39, sh40, sh41, sh42, sh43, sh44, sh45, sh46, sh47, sh48, sh49, sh50, sh51, sh52, sh53, sh54, sh55, sh56, sh57, sh58, sh59, brP, brN, swP, amask, apush, List.getElem?_cons_zero, List.getElem?_cons_succ, List.set_cons_zero, List.set_cons_succ, List.take_succ_cons, List.take_zero, List.drop_succ_cons, List.drop_zero, List.reverse_cons, List.reverse_nil, List.nil_append, List.cons_append, List.length_cons, List.length_nil, true_and, and_true, Nat.zero_le, Nat.reduceLeDiff, Nat.reduceAdd, Nat.reduceEqDiff, false_imp_iff, true_imp_iff, not_false_eq_true, not_true_eq_false, imp_self, forall_const]
  refine ⟨_, ⟨1, by decide, c_of _ d k hd hk⟩, ?_⟩; rintro _ _ ⟨rfl, rfl⟩; simp only [exP, stP, p1, p2, pr, pobj, parr, sh0, sh1, sh2, sh3, sh4, sh5, sh6, sh7, sh8, sh9, sh10, sh11, sh12, sh13, sh14, sh15, sh16, sh17, sh18, sh19, sh20, sh21, sh22, sh23, sh24, sh25, sh26, sh27, sh28, sh29, sh30, sh31, sh32, sh33, sh34, sh35, sh36, sh37, sh38, sh39, sh40, sh41, sh42, sh43, sh44, sh45, sh46, sh47, sh48, sh49, sh50, sh51, sh52, sh53, sh54, sh55, sh56, sh57, sh58, sh59, brP, brN, swP, amask, apush, List.getElem?_cons_zero, List.getElem?_cons_succ, List.set_cons_zero, List.set_cons_succ, List.take_succ_cons, List.take_zero, List.drop_succ_cons, List.drop_zero, List.reverse_cons, List.reverse_nil, List.nil_append, List.cons_append, List.length_cons, List.length_nil, true_and, and_true, Nat.zero_le, Nat.reduceLeDiff, Nat.reduceAdd, Nat.reduceEqDiff, false_imp_iff, true_imp_iff, not_false_eq_true, not_true_eq_false, imp_self, forall_const]
  refine ⟨_, ⟨0, by decide, c_holds _ _ w hw⟩, ?_⟩; rintro _ _ ⟨rfl, rfl⟩; simp only [exP, stP, p1, p2, pr, pobj, parr, sh0, sh1, sh2, sh3, sh4, sh5, sh6, sh7, sh8, sh9, sh10, sh11, sh12, sh13, sh14, sh15, sh16, sh17, sh18, sh19, sh20, sh21, sh22, sh23, sh24, sh25, sh26, sh27, sh28, sh29, sh30, sh31, sh32, sh33, sh34, sh35, sh36, sh37, sh38, sh39, sh40, sh41, sh42, sh43, sh44, sh45, sh46, sh47, sh48, sh49, sh50, sh51, sh52, sh53, sh54, sh55, sh56, sh57, sh58, sh59, brP, brN, swP, amask, apush, List.getElem?_cons_zero, List.getElem?_cons_succ, List.set_cons_zero, List.set_cons_succ, List.take_succ_cons, List.take_zero, List.drop_succ_cons, List.drop_zero, List.reverse_cons, List.reverse_nil, List.nil_append, List.cons_append, List.length_cons, List.length_nil, true_and, and_true, Nat.zero_le, Nat.reduceLeDiff, Nat.reduceAdd, Nat.reduceEqDiff, false_imp_iff, true_imp_iff, not_false_eq_true, not_true_eq_false, imp_self, forall_const, b01_0]
  refine ⟨fun c => ?_, fun c => ?_⟩
  · have c2 : f_put m d k w = false := by unfold f_put; simp at c; simp [c]
    refine st_X0_put_31 ?_; simp only [bX0_put_31, exP, stP, p1, p2, pr, pobj, parr, sh0, sh1, sh2, sh3, sh4, sh5, sh6, sh7, sh8, sh9, sh10, sh11, sh12, sh13, sh14, sh15, sh16, sh17, sh18, sh19, sh20, sh21, sh22, sh23, sh24, sh25, sh26, sh27, sh28, sh29, sh30, sh31, sh32, sh33, sh34, sh35, sh36, sh37, sh38, sh39, sh40, sh41, sh42, sh43, sh44, sh45, sh46, sh47, sh48, sh49, sh50, sh51, sh52, sh53, sh54, sh55, sh56, sh57, sh58, sh59, brP, brN, swP, amask, apush, List.getElem?_cons_zero, List.getElem?_cons_succ, List.set_cons_zero, List.set_cons_succ, List.take_succ_cons, List.take_zero, List.drop_succ_cons, List.drop_zero, List.reverse_cons, List.reverse_nil, List.nil_append, List.cons_append, List.length_cons, List.length_nil, true_and, and_true, Nat.zero_le, Nat.reduceLeDiff, Nat.reduceAdd, Nat.reduceEqDiff, false_imp_iff, true_imp_iff, not_false_eq_true, not_true_eq_false, imp_self, forall_const]
    simp [c2, b01]
  · refine st_X0_put_21 ?_; simp only [bX0_put_21, exP, stP, p1, p2, pr, pobj, parr, sh0, sh1, sh2, sh3, sh4, sh5, sh6, sh7, sh8, sh9, sh10, sh11, sh12, sh13, sh14, sh15, sh16, sh17, sh18, sh19, sh20, sh21, sh22, sh23, sh24, sh25, sh26, sh27, sh28, sh29, sh30, sh31, sh32, sh33, sh34, sh35, sh36, sh37, sh38, sh39, sh40, sh41, sh42, sh43, sh44, sh45, sh46, sh47, sh48, sh49, sh50, sh51, sh52, sh53, sh54, sh55, sh56, sh57, sh58, sh59, brP, brN, swP, amask, apush, List.getElem?_cons_zero, List.getElem?_cons_succ, List.set_cons_zero, List.set_cons_succ, List.take_succ_cons, List.take_zero, List.drop_succ_cons, List.drop_zero, List.reverse_cons, List.reverse_nil, List.nil_append, List.cons_append, List.length_cons, List.length_nil, true_and, and_true, Nat.zero_le, Nat.reduceLeDiff, Nat.reduceAdd, Nat.reduceEqDiff, false_imp_iff, true_imp_iff, not_false_eq_true, not_true_eq_false, imp_self, forall_const]
    refine ⟨_, ⟨2, by decide, c_many _ d hd⟩, ?_⟩; rintro _ _ ⟨rfl, rfl⟩; simp only [exP, stP, p1, p2, pr, pobj, parr, sh0, sh1, sh2, sh3, sh4, sh5, sh6, sh7, sh8, sh9, sh10, sh11, sh12, sh13, sh14, sh15, sh16, sh17, sh18, sh19, sh20, sh21, sh22, sh23, sh24, sh25, sh26, sh27, sh28, sh29, sh30, sh31, sh32, sh33, sh34, sh35, sh36, sh37, sh38, sh39, sh40, sh41, sh42, sh43, sh44, sh45, sh46, sh47, sh48, sh49, sh50, sh51, sh52, sh53, sh54, sh55, sh56, sh57, sh58, sh59, brP, brN, swP, amask, apush, List.getElem?_cons_zero, List.getElem?_cons_succ, List.set_cons_zero, List.set_cons_succ, List.take_succ_cons, List.take_zero, List.drop_succ_cons, List.drop_zero, List.reverse_cons, List.reverse_nil, List.nil_append, List.cons_append, List.length_cons, List.length_nil, true_and, and_true, Nat.zero_le, Nat.reduceLeDiff, Nat.reduceAdd, Nat.reduceEqDiff, false_imp_iff, true_imp_iff, not_false_eq_true, not_true_eq_false, imp_self, forall_const]
    refine ⟨fun c1 => ?_, fun c1 => ?_⟩
    · have c2 : f_put m d k w = true := by unfold f_put; simp [c, c1]
      refine st_X0_put_33 ?_; simp only [bX0_put_33, exP, stP, p1, p2, pr, pobj, parr, sh0, sh1, sh2, sh3, sh4, sh5, sh6, sh7, sh8, sh9, sh10, sh11, sh12, sh13, sh14, sh15, sh16, sh17, sh18, sh19, sh20, sh21, sh22, sh23, sh24, sh25, sh26, sh27, sh28, sh29, sh30, sh31, sh32, sh33, sh34, sh35, sh36, sh37, sh38, sh39, sh40, sh41, sh42, sh43, sh44, sh45, sh46, sh47, sh48, sh49, sh50, sh51, sh52, sh53, sh54, sh55, sh56, sh57, sh58, sh59, brP, brN, swP, amask, apush, List.getElem?_cons_zero, List.getElem?_cons_succ, List.set_cons_zero, List.set_cons_succ, List.take_succ_cons, List.take_zero, List.drop_succ_cons, List.drop_zero, List.reverse_cons, List.reverse_nil, List.nil_append, List.cons_append, List.length_cons, List.length_nil, true_and, and_true, Nat.zero_le, Nat.reduceLeDiff, Nat.reduceAdd, Nat.reduceEqDiff, false_imp_iff, true_imp_iff, not_false_eq_true, not_true_eq_false, imp_self, forall_const, nI_muladd _ _ 12, nI_clamp (show k * 12 + d < 2147483648 by omega)]
      refine ⟨vp_in_nI h2 (by omega), ?_⟩
      refine ⟨vp_in_nI h2 (by omega), ?_⟩
      simp [c2, b01, g_put]
    · have c2 : f_put m d k w = false := by unfold f_put; simp [c, c1]
      refine st_X0_put_31 ?_; simp only [bX0_put_31, exP, stP, p1, p2, pr, pobj, parr, sh0, sh1, sh2, sh3, sh4, sh5, sh6, sh7, sh8, sh9, sh10, sh11, sh12, sh13, sh14, sh15, sh16, sh17, sh18, sh19, sh20, sh21, sh22, sh23, sh24, sh25, sh26, sh27, sh28, sh29, sh30, sh31, sh32, sh33, sh34, sh35, sh36, sh37, sh38, sh39, sh40, sh41, sh42, sh43, sh44, sh45, sh46, sh47, sh48, sh49, sh50, sh51, sh52, sh53, sh54, sh55, sh56, sh57, sh58, sh59, brP, brN, swP, amask, apush, List.getElem?_cons_zero, List.getElem?_cons_succ, List.set_cons_zero, List.set_cons_succ, List.take_succ_cons, List.take_zero, List.drop_succ_cons, List.drop_zero, List.reverse_cons, List.reverse_nil, List.nil_append, List.cons_append, List.length_cons, List.length_nil, true_and, and_true, Nat.zero_le, Nat.reduceLeDiff, Nat.reduceAdd, Nat.reduceEqDiff, false_imp_iff, true_imp_iff, not_false_eq_true, not_true_eq_false, imp_self, forall_const]
      simp [c2, b01]
def shH (m : AM) (d e : Nat) : Prop := e ≠ d ∧ m 14 (36 + d) &&& m 14 (36 + e) ≠ 0
theorem w_sharing (m : AM) (d : Nat) (hd : d < 12) : ∀ (n j : Nat) (x : Int32), j + n = 12 → (∀ e, e < 32 → (bt x e = true ↔ e < j ∧ shH m d e)) → AW 2 kX0_sharingHand (fun r u => m = u ∧ ∃ x, r = some x ∧ ∀ e, e < 32 → (bt x e = true ↔ e < 12 ∧ shH m d e)) 4 [some (.inr 13), some (.inl (nI d)), some (.inl x), some (.inl (nI j))] [] m
  | 0, j, x, h, hx => by
    obtain rfl : j = 12 := by omega
    refine st_X0_sharingHand_4 ?_; simp only [bX0_sharingHand_4, exP, stP, p1, p2, pr, pobj, parr, sh0, sh1, sh2, sh3, sh4, sh5, sh6, sh7, sh8, sh9, sh10, sh11, sh12, sh13, sh14, sh15, sh16, sh17, sh18, sh19, sh20, sh21, sh22, sh23, sh24, sh25, sh26, sh27, sh28, sh29, sh30, sh31, sh32, sh33, sh34, sh35, sh36, sh37, sh38, sh39, sh40, sh41, sh42, sh43, sh44, sh45, sh46, sh47, sh48, sh49, sh50, sh51, sh52, sh53, sh54, sh55, sh56, sh57, sh58, sh59, brP, brN, swP, amask, apush, List.getElem?_cons_zero, List.getElem?_cons_succ, List.set_cons_zero, List.set_cons_succ, List.take_succ_cons, List.take_zero, List.drop_succ_cons, List.drop_zero, List.reverse_cons, List.reverse_nil, List.nil_append, List.cons_append, List.length_cons, List.length_nil, true_and, and_true, Nat.zero_le, Nat.reduceLeDiff, Nat.reduceAdd, Nat.reduceEqDiff, false_imp_iff, true_imp_iff, not_false_eq_true, not_true_eq_false, imp_self, forall_const, lit_le (k := 12) (n := 12) (by omega) (by omega)]
    refine st_X0_sharingHand_43 ?_; simp only [bX0_sharingHand_43, exP, stP, p1, p2, pr, pobj, parr, sh0, sh1, sh2, sh3, sh4, sh5, sh6, sh7, sh8, sh9, sh10, sh11, sh12, sh13, sh14, sh15, sh16, sh17, sh18, sh19, sh20, sh21, sh22, sh23, sh24, sh25, sh26, sh27, sh28, sh29, sh30, sh31, sh32, sh33, sh34, sh35, sh36, sh37, sh38, sh39, sh40, sh41, sh42, sh43, sh44, sh45, sh46, sh47, sh48, sh49, sh50, sh51, sh52, sh53, sh54, sh55, sh56, sh57, sh58, sh59, brP, brN, swP, amask, apush, List.getElem?_cons_zero, List.getElem?_cons_succ, List.set_cons_zero, List.set_cons_succ, List.take_succ_cons, List.take_zero, List.drop_succ_cons, List.drop_zero, List.reverse_cons, List.reverse_nil, List.nil_append, List.cons_append, List.length_cons, List.length_nil, true_and, and_true, Nat.zero_le, Nat.reduceLeDiff, Nat.reduceAdd, Nat.reduceEqDiff, false_imp_iff, true_imp_iff, not_false_eq_true, not_true_eq_false, imp_self, forall_const]
    exact ⟨Or.inl trivial, x, rfl, hx⟩
  | n + 1, j, x, h, hx => by
    have skip : (¬ shH m d j) → AW 2 kX0_sharingHand (fun r u => m = u ∧ ∃ x, r = some x ∧ ∀ e, e < 32 → (bt x e = true ↔ e < 12 ∧ shH m d e)) 37 [some (.inr 13), some (.inl (nI d)), some (.inl x), some (.inl (nI j))] [] m := by
      intro hn
      refine st_X0_sharingHand_37 ?_; simp only [bX0_sharingHand_37, exP, stP, p1, p2, pr, pobj, parr, sh0, sh1, sh2, sh3, sh4, sh5, sh6, sh7, sh8, sh9, sh10, sh11, sh12, sh13, sh14, sh15, sh16, sh17, sh18, sh19, sh20, sh21, sh22, sh23, sh24, sh25, sh26, sh27, sh28, sh29, sh30, sh31, sh32, sh33, sh34, sh35, sh36, sh37, sh38, sh39, sh40, sh41, sh42, sh43, sh44, sh45, sh46, sh47, sh48, sh49, sh50, sh51, sh52, sh53, sh54, sh55, sh56, sh57, sh58, sh59, brP, brN, swP, amask, apush, List.getElem?_cons_zero, List.getElem?_cons_succ, List.set_cons_zero, List.set_cons_succ, List.take_succ_cons, List.take_zero, List.drop_succ_cons, List.drop_zero, List.reverse_cons, List.reverse_nil, List.nil_append, List.cons_append, List.length_cons, List.length_nil, true_and, and_true, Nat.zero_le, Nat.reduceLeDiff, Nat.reduceAdd, Nat.reduceEqDiff, false_imp_iff, true_imp_iff, not_false_eq_true, not_true_eq_false, imp_self, forall_const]
      rw [nI_1]
      refine w_sharing m d hd n (j + 1) x (by omega) (fun e he => ?_)
      rw [hx e he]
      constructor
      · rintro ⟨a, b⟩; exact ⟨by omega, b⟩
      · rintro ⟨a, b⟩
        have : e ≠ j := fun q => hn (q ▸ b)
        exact ⟨by omega, b⟩
    refine st_X0_sharingHand_4 ?_; simp only [bX0_sharingHand_4, exP, stP, p1, p2, pr, pobj, parr, sh0, sh1, sh2, sh3, sh4, sh5, sh6, sh7, sh8, sh9, sh10, sh11, sh12, sh13, sh14, sh15, sh16, sh17, sh18, sh19, sh20, sh21, sh22, sh23, sh24, sh25, sh26, sh27, sh28, sh29, sh30, sh31, sh32, sh33, sh34, sh35, sh36, sh37, sh38, sh39, sh40, sh41, sh42, sh43, sh44, sh45, sh46, sh47, sh48, sh49, sh50, sh51, sh52, sh53, sh54, sh55, sh56, sh57, sh58, sh59, brP, brN, swP, amask, apush, List.getElem?_cons_zero, List.getElem?_cons_succ, List.set_cons_zero, List.set_cons_succ, List.take_succ_cons, List.take_zero, List.drop_succ_cons, List.drop_zero, List.reverse_cons, List.reverse_nil, List.nil_append, List.cons_append, List.length_cons, List.length_nil, true_and, and_true, Nat.zero_le, Nat.reduceLeDiff, Nat.reduceAdd, Nat.reduceEqDiff, false_imp_iff, true_imp_iff, not_false_eq_true, not_true_eq_false, imp_self, forall_const, lit_nle (k := 12) (n := j) (by omega) (by omega)]
    refine st_X0_sharingHand_10 ?_; simp only [bX0_sharingHand_10, exP, stP, p1, p2, pr, pobj, parr, sh0, sh1, sh2, sh3, sh4, sh5, sh6, sh7, sh8, sh9, sh10, sh11, sh12, sh13, sh14, sh15, sh16, sh17, sh18, sh19, sh20, sh21, sh22, sh23, sh24, sh25, sh26, sh27, sh28, sh29, sh30, sh31, sh32, sh33, sh34, sh35, sh36, sh37, sh38, sh39, sh40, sh41, sh42, sh43, sh44, sh45, sh46, sh47, sh48, sh49, sh50, sh51, sh52, sh53, sh54, sh55, sh56, sh57, sh58, sh59, brP, brN, swP, amask, apush, List.getElem?_cons_zero, List.getElem?_cons_succ, List.set_cons_zero, List.set_cons_succ, List.take_succ_cons, List.take_zero, List.drop_succ_cons, List.drop_zero, List.reverse_cons, List.reverse_nil, List.nil_append, List.cons_append, List.length_cons, List.length_nil, true_and, and_true, Nat.zero_le, Nat.reduceLeDiff, Nat.reduceAdd, Nat.reduceEqDiff, false_imp_iff, true_imp_iff, not_false_eq_true, not_true_eq_false, imp_self, forall_const, nI_inj (show j < 2147483648 by omega) (show d < 2147483648 by omega)]
    refine ⟨fun c => ?_, fun c => ?_⟩
    · exact skip (fun q => q.1 c)
    · refine st_X0_sharingHand_15 ?_; simp only [bX0_sharingHand_15, exP, stP, p1, p2, pr, pobj, parr, sh0, sh1, sh2, sh3, sh4, sh5, sh6, sh7, sh8, sh9, sh10, sh11, sh12, sh13, sh14, sh15, sh16, sh17, sh18, sh19, sh20, sh21, sh22, sh23, sh24, sh25, sh26, sh27, sh28, sh29, sh30, sh31, sh32, sh33, sh34, sh35, sh36, sh37, sh38, sh39, sh40, sh41, sh42, sh43, sh44, sh45, sh46, sh47, sh48, sh49, sh50, sh51, sh52, sh53, sh54, sh55, sh56, sh57, sh58, sh59, brP, brN, swP, amask, apush, List.getElem?_cons_zero, List.getElem?_cons_succ, List.set_cons_zero, List.set_cons_succ, List.take_succ_cons, List.take_zero, List.drop_succ_cons, List.drop_zero, List.reverse_cons, List.reverse_nil, List.nil_append, List.cons_append, List.length_cons, List.length_nil, true_and, and_true, Nat.zero_le, Nat.reduceLeDiff, Nat.reduceAdd, Nat.reduceEqDiff, false_imp_iff, true_imp_iff, not_false_eq_true, not_true_eq_false, imp_self, forall_const]
      refine ⟨_, ⟨1, by decide, c_of _ d 3 hd (by omega)⟩, ?_⟩; rintro _ _ ⟨rfl, rfl⟩; simp only [exP, stP, p1, p2, pr, pobj, parr, sh0, sh1, sh2, sh3, sh4, sh5, sh6, sh7, sh8, sh9, sh10, sh11, sh12, sh13, sh14, sh15, sh16, sh17, sh18, sh19, sh20, sh21, sh22, sh23, sh24, sh25, sh26, sh27, sh28, sh29, sh30, sh31, sh32, sh33, sh34, sh35, sh36, sh37, sh38, sh39, sh40, sh41, sh42, sh43, sh44, sh45, sh46, sh47, sh48, sh49, sh50, sh51, sh52, sh53, sh54, sh55, sh56, sh57, sh58, sh59, brP, brN, swP, amask, apush, List.getElem?_cons_zero, List.getElem?_cons_succ, List.set_cons_zero, List.set_cons_succ, List.take_succ_cons, List.take_zero, List.drop_succ_cons, List.drop_zero, List.reverse_cons, List.reverse_nil, List.nil_append, List.cons_append, List.length_cons, List.length_nil, true_and, and_true, Nat.zero_le, Nat.reduceLeDiff, Nat.reduceAdd, Nat.reduceEqDiff, false_imp_iff, true_imp_iff, not_false_eq_true, not_true_eq_false, imp_self, forall_const]
      refine ⟨_, ⟨1, by decide, c_of _ j 3 (by omega) (by omega)⟩, ?_⟩; rintro _ _ ⟨rfl, rfl⟩; simp only [exP, stP, p1, p2, pr, pobj, parr, sh0, sh1, sh2, sh3, sh4, sh5, sh6, sh7, sh8, sh9, sh10, sh11, sh12, sh13, sh14, sh15, sh16, sh17, sh18, sh19, sh20, sh21, sh22, sh23, sh24, sh25, sh26, sh27, sh28, sh29, sh30, sh31, sh32, sh33, sh34, sh35, sh36, sh37, sh38, sh39, sh40, sh41, sh42, sh43, sh44, sh45, sh46, sh47, sh48, sh49, sh50, sh51, sh52, sh53, sh54, sh55, sh56, sh57, sh58, sh59, brP, brN, swP, amask, apush, List.getElem?_cons_zero, List.getElem?_cons_succ, List.set_cons_zero, List.set_cons_succ, List.take_succ_cons, List.take_zero, List.drop_succ_cons, List.drop_zero, List.reverse_cons, List.reverse_nil, List.nil_append, List.cons_append, List.length_cons, List.length_nil, true_and, and_true, Nat.zero_le, Nat.reduceLeDiff, Nat.reduceAdd, Nat.reduceEqDiff, false_imp_iff, true_imp_iff, not_false_eq_true, not_true_eq_false, imp_self, forall_const]
      refine ⟨fun c1 => ?_, fun c1 => ?_⟩
      · exact skip (fun q => q.2 c1)
      · refine st_X0_sharingHand_31 ?_; simp only [bX0_sharingHand_31, exP, stP, p1, p2, pr, pobj, parr, sh0, sh1, sh2, sh3, sh4, sh5, sh6, sh7, sh8, sh9, sh10, sh11, sh12, sh13, sh14, sh15, sh16, sh17, sh18, sh19, sh20, sh21, sh22, sh23, sh24, sh25, sh26, sh27, sh28, sh29, sh30, sh31, sh32, sh33, sh34, sh35, sh36, sh37, sh38, sh39, sh40, sh41, sh42, sh43, sh44, sh45, sh46, sh47, sh48, sh49, sh50, sh51, sh52, sh53, sh54, sh55, sh56, sh57, sh58, sh59, brP, brN, swP, amask, apush, List.getElem?_cons_zero, List.getElem?_cons_succ, List.set_cons_zero, List.set_cons_succ, List.take_succ_cons, List.take_zero, List.drop_succ_cons, List.drop_zero, List.reverse_cons, List.reverse_nil, List.nil_append, List.cons_append, List.length_cons, List.length_nil, true_and, and_true, Nat.zero_le, Nat.reduceLeDiff, Nat.reduceAdd, Nat.reduceEqDiff, false_imp_iff, true_imp_iff, not_false_eq_true, not_true_eq_false, imp_self, forall_const]
        refine st_X0_sharingHand_37 ?_; simp only [bX0_sharingHand_37, exP, stP, p1, p2, pr, pobj, parr, sh0, sh1, sh2, sh3, sh4, sh5, sh6, sh7, sh8, sh9, sh10, sh11, sh12, sh13, sh14, sh15, sh16, sh17, sh18, sh19, sh20, sh21, sh22, sh23, sh24, sh25, sh26, sh27, sh28, sh29, sh30, sh31, sh32, sh33, sh34, sh35, sh36, sh37, sh38, sh39, sh40, sh41, sh42, sh43, sh44, sh45, sh46, sh47, sh48, sh49, sh50, sh51, sh52, sh53, sh54, sh55, sh56, sh57, sh58, sh59, brP, brN, swP, amask, apush, List.getElem?_cons_zero, List.getElem?_cons_succ, List.set_cons_zero, List.set_cons_succ, List.take_succ_cons, List.take_zero, List.drop_succ_cons, List.drop_zero, List.reverse_cons, List.reverse_nil, List.nil_append, List.cons_append, List.length_cons, List.length_nil, true_and, and_true, Nat.zero_le, Nat.reduceLeDiff, Nat.reduceAdd, Nat.reduceEqDiff, false_imp_iff, true_imp_iff, not_false_eq_true, not_true_eq_false, imp_self, forall_const]
        rw [nI_1]
        refine w_sharing _ d hd n (j + 1) _ (by omega) (fun e he => ?_)
        rw [b_or, bt_shl1 (by omega) he, Bool.or_eq_true, hx e he, decide_eq_true_eq]
        constructor
        · rintro (⟨a, b⟩ | rfl)
          · exact ⟨by omega, b⟩
          · exact ⟨by omega, c, c1⟩
        · rintro ⟨a, b⟩
          by_cases q : e = j
          · exact Or.inr q
          · exact Or.inl ⟨by omega, b⟩
theorem c_sharing (m : AM) (d : Nat) (hd : d < 12) : AC 2 kX0_sharingHand [.inr 13, .inl (nI d)] m (fun r u => m = u ∧ ∃ x, r = some x ∧ ∀ e, e < 32 → (bt x e = true ↔ e < 12 ∧ shH m d e)) := by
  refine AC_of own_X0_sharingHand (ls := [some (.inr 13), some (.inl (nI d)), none, none]) (z := 2) (Nat.le_of_ble_eq_true rfl) rfl ?_
  refine st_X0_sharingHand_0 ?_; simp only [bX0_sharingHand_0, exP, stP, p1, p2, pr, pobj, parr, sh0, sh1, sh2, sh3, sh4, sh5, sh6, sh7, sh8, sh9, sh10, sh11, sh12, sh13, sh14, sh15, sh16, sh17, sh18, sh19, sh20, sh21, sh22, sh23, sh24, sh25, sh26, sh27, sh28, sh29, sh30, sh31, sh32, sh33, sh34, sh35, sh36, sh37, sh38, sh39, sh40, sh41, sh42, sh43, sh44, sh45, sh46, sh47, sh48, sh49, sh50, sh51, sh52, sh53, sh54, sh55, sh56, sh57, sh58, sh59, brP, brN, swP, amask, apush, List.getElem?_cons_zero, List.getElem?_cons_succ, List.set_cons_zero, List.set_cons_succ, List.take_succ_cons, List.take_zero, List.drop_succ_cons, List.drop_zero, List.reverse_cons, List.reverse_nil, List.nil_append, List.cons_append, List.length_cons, List.length_nil, true_and, and_true, Nat.zero_le, Nat.reduceLeDiff, Nat.reduceAdd, Nat.reduceEqDiff, false_imp_iff, true_imp_iff, not_false_eq_true, not_true_eq_false, imp_self, forall_const]
  exact w_sharing m d hd 12 0 0 rfl (fun e he => by rw [b_0]; simp)
end
section
/-! ===== sets of deeds as numbers ===== -/
def pcN (t : Nat) : Nat → Nat
  | 0 => 0
  | n + 1 => pcN t n + (if t.testBit n = true then 1 else 0)
theorem pcN_le (t : Nat) : ∀ n, pcN t n ≤ n
  | 0 => Nat.le_refl 0
  | n + 1 => by
    have := pcN_le t n
    unfold pcN
    split <;> omega
theorem pcN_mono {s t : Nat} : ∀ n, (∀ i, i < n → s.testBit i = true → t.testBit i = true) → pcN s n ≤ pcN t n
  | 0, _ => Nat.le_refl 0
  | n + 1, h => by
    have h1 := pcN_mono (s := s) (t := t) n (fun i hi => h i (by omega))
    have h2 := h n (by omega)
    unfold pcN
    by_cases hs : s.testBit n = true
    · rw [if_pos hs, if_pos (h2 hs)]; omega
    · rw [if_neg hs]; split <;> omega
theorem pcN_congr {s t : Nat} : ∀ n, (∀ i, i < n → s.testBit i = t.testBit i) → pcN s n = pcN t n
  | 0, _ => rfl
  | n + 1, h => by
    have h1 := pcN_congr (s := s) (t := t) n (fun i hi => h i (by omega))
    unfold pcN
    rw [h1, h n (by omega)]
/-- a set with one more -/
theorem pcN_ins {s t d : Nat} : ∀ n, d < n → s.testBit d = false → (∀ i, i < n → t.testBit i = (s.testBit i || decide (i = d))) → pcN t n = pcN s n + 1
  | 0, h, _, _ => by omega
  | n + 1, hd, hs, h => by
    unfold pcN
    by_cases hn : d = n
    · subst hn
      have h1 : pcN t d = pcN s d := pcN_congr d (fun i hi => by
        have q : ¬ i = d := by omega
        rw [h i (by omega)]
        simp [q])
      rw [h1, h d (by omega), hs]
      simp
    · have h1 := pcN_ins (s := s) (t := t) (d := d) n (by omega) hs (fun i hi => h i (by omega))
      have h2 : t.testBit n = s.testBit n := by rw [h n (by omega)]; have : ¬ n = d := fun q => hn q.symm; simp [this]
      rw [h1, h2]
      omega
theorem pcN_sub_lt {s t d : Nat} {n : Nat} (hd : d < n) (h : ∀ i, i < n → s.testBit i = true → t.testBit i = true) (hs : s.testBit d = false) (ht : t.testBit d = true) : pcN s n < pcN t n := by
  induction n with
  | zero => omega
  | succ n ih =>
    unfold pcN
    by_cases hn : d = n
    · subst hn
      have h1 := pcN_mono (s := s) (t := t) d (fun i hi => h i (by omega))
      rw [hs, ht]
      simp
      omega
    · have h1 := ih (by omega) (fun i hi => h i (by omega))
      have h2 := h n (by omega)
      by_cases q : s.testBit n = true
      · rw [if_pos q, if_pos (h2 q)]; omega
      · rw [if_neg q]; split <;> omega
def insB (t d : Nat) : Nat := t ||| 2 ^ d
theorem insB_bit (t d i : Nat) : (insB t d).testBit i = (t.testBit i || decide (i = d)) := by
  unfold insB
  rw [Nat.testBit_or, Nat.testBit_two_pow]
  by_cases h : d = i
  · subst h; simp
  · have h2 : ¬ i = d := fun q => h q.symm
    simp [h, h2]
def sz (t : Nat) : Nat := pcN t 12
def sub (s t : Nat) : Prop := ∀ i, s.testBit i = true → t.testBit i = true
/-! ===== years that deeds leave one another ===== -/
section NET
variable (F L : Nat → Int) (cst : Nat → Nat → Option Int)
def sol (t : Nat) (y : Nat → Int) : Prop := (∀ d, d < 12 → t.testBit d = true → F d ≤ y d ∧ y d ≤ L d) ∧ ∀ a b c, a < 12 → b < 12 → t.testBit a = true → t.testBit b = true → cst a b = some c → y b ≤ y a + c
def agr (t : Nat) : Prop := ∃ y, sol F L cst t y
def jmin (t : Nat) (X : Nat → Int) (b : Nat) : Nat → Int
  | 0 => X b
  | a + 1 => match (if t.testBit a = true ∧ t.testBit b = true then cst a b else none) with
    | some c => if X a + c < jmin t X b a then X a + c else jmin t X b a
    | none => jmin t X b a
def lat (t : Nat) : Nat → Nat → Int
  | 0 => L
  | k + 1 => fun b => jmin cst t (lat t k) b 12
variable {F L cst}
theorem jmin_le (t : Nat) (X : Nat → Int) (b : Nat) : ∀ n, jmin cst t X b n ≤ X b
  | 0 => Int.le_refl _
  | n + 1 => by
    have h := jmin_le t X b n
    unfold jmin
    split
    · split
      · omega
      · exact h
    · exact h
theorem jmin_mono (t : Nat) (X : Nat → Int) (b : Nat) {i n : Nat} (h : i ≤ n) : jmin cst t X b n ≤ jmin cst t X b i := by
  induction n with
  | zero => obtain rfl : i = 0 := by omega
            exact Int.le_refl _
  | succ n ih =>
    by_cases hi : i = n + 1
    · subst hi; exact Int.le_refl _
    · have h1 := ih (by omega)
      have h2 : jmin cst t X b (n + 1) ≤ jmin cst t X b n := by
        conv => lhs; unfold jmin
        split
        · split
          · omega
          · exact Int.le_refl _
        · exact Int.le_refl _
      omega
theorem jmin_edge {t : Nat} {X : Nat → Int} {a b n : Nat} {c : Int} (ha : t.testBit a = true) (hb : t.testBit b = true) (hc : cst a b = some c) (hn : a < n) : jmin cst t X b n ≤ X a + c := by
  have h1 : jmin cst t X b (a + 1) ≤ X a + c := by
    unfold jmin
    rw [if_pos ⟨ha, hb⟩, hc]
    dsimp only
    split
    · exact Int.le_refl _
    · omega
  have h2 := jmin_mono (cst := cst) t X b (show a + 1 ≤ n by omega)
  omega
theorem jmin_or (t : Nat) (X : Nat → Int) (b : Nat) : ∀ n, jmin cst t X b n = X b ∨ ∃ a c, a < n ∧ t.testBit a = true ∧ t.testBit b = true ∧ cst a b = some c ∧ jmin cst t X b n = X a + c
  | 0 => Or.inl rfl
  | n + 1 => by
    have h := jmin_or t X b n
    have keep : jmin cst t X b (n + 1) = jmin cst t X b n → (jmin cst t X b (n + 1) = X b ∨ ∃ a c, a < n + 1 ∧ t.testBit a = true ∧ t.testBit b = true ∧ cst a b = some c ∧ jmin cst t X b (n + 1) = X a + c) := by
      intro e
      rw [e]
      rcases h with h | ⟨a, c, h1, h2⟩
      · exact Or.inl h
      · exact Or.inr ⟨a, c, by omega, h2⟩
    by_cases hab : t.testBit n = true ∧ t.testBit b = true
    · cases hc : cst n b with
      | none => exact keep (by conv => lhs; unfold jmin; rw [if_pos hab, hc])
      | some c =>
        by_cases hl : X n + c < jmin cst t X b n
        · refine Or.inr ⟨n, c, by omega, hab.1, hab.2, hc, ?_⟩
          conv => lhs; unfold jmin; rw [if_pos hab, hc]
          simp [hl]
        · exact keep (by conv => lhs; unfold jmin; rw [if_pos hab, hc]; dsimp only; rw [if_neg hl])
    · exact keep (by conv => lhs; unfold jmin; rw [if_neg hab])
theorem lat_le (t k b : Nat) : lat L cst t (k + 1) b ≤ lat L cst t k b := jmin_le t _ b 12
theorem lat_dec (t b : Nat) {i k : Nat} (h : i ≤ k) : lat L cst t k b ≤ lat L cst t i b := by
  induction k with
  | zero => obtain rfl : i = 0 := by omega
            exact Int.le_refl _
  | succ k ih =>
    by_cases hi : i = k + 1
    · subst hi; exact Int.le_refl _
    · have := ih (by omega)
      have h2 := lat_le (L := L) (cst := cst) t k b
      omega
theorem lat_edge {t k a b : Nat} {c : Int} (ha : a < 12) (hta : t.testBit a = true) (htb : t.testBit b = true) (hc : cst a b = some c) : lat L cst t (k + 1) b ≤ lat L cst t k a + c := jmin_edge hta htb hc ha
/-- a solution lies below every round -/
theorem lat_sol {t : Nat} {y : Nat → Int} (h : sol F L cst t y) : ∀ k b, b < 12 → t.testBit b = true → y b ≤ lat L cst t k b
  | 0, b, hb, htb => (h.1 b hb htb).2
  | k + 1, b, hb, htb => by
    have ih := lat_sol h k
    show y b ≤ jmin cst t (lat L cst t k) b 12
    rcases jmin_or (cst := cst) t (lat L cst t k) b 12 with e | ⟨a, c, ha, hta, -, hc, e⟩
    · rw [e]; exact ih b hb htb
    · rw [e]
      have h1 := ih a ha hta
      have h2 := h.2 a b c ha hb hta htb hc
      omega
/-- a greater set has lesser rounds -/
theorem lat_sub {s t : Nat} (h : sub s t) : ∀ k b, lat L cst t k b ≤ lat L cst s k b
  | 0, b => Int.le_refl _
  | k + 1, b => by
    have ih := lat_sub h k
    show jmin cst t (lat L cst t k) b 12 ≤ jmin cst s (lat L cst s k) b 12
    rcases jmin_or (cst := cst) s (lat L cst s k) b 12 with e | ⟨a, c, ha, hta, htb, hc, e⟩
    · rw [e]
      have := jmin_le (cst := cst) t (lat L cst t k) b 12
      have := ih b
      omega
    · rw [e]
      have h1 := jmin_edge (cst := cst) (X := lat L cst t k) (h a hta) (h b htb) hc ha
      have h2 := ih a
      omega
/-- what changes at round k is the end of a chain of k + 1 different ones -/
theorem lat_chain (hc0 : ∀ a b c, cst a b = some c → 0 ≤ c) {t : Nat} : ∀ (k b : Nat), b < 12 → t.testBit b = true → (k = 0 ∨ lat L cst t k b < lat L cst t (k - 1) b) → ∃ u : Nat, (∀ i, u.testBit i = true → i < 12 ∧ t.testBit i = true ∧ ∃ j, j ≤ k ∧ lat L cst t j i ≤ lat L cst t k b) ∧ sz u = k + 1 ∧ u.testBit b = true
  | 0, b, hb, htb, _ => by
    refine ⟨insB 0 b, fun i hi => ?_, ?_, by rw [insB_bit]; simp⟩
    · rw [insB_bit] at hi
      simp at hi
      subst hi
      exact ⟨hb, htb, 0, Nat.le_refl 0, Int.le_refl _⟩
    · show pcN (insB 0 b) 12 = 1
      rw [pcN_ins (s := 0) (d := b) 12 hb (by simp) (fun i _ => insB_bit 0 b i)]
      have : pcN 0 12 = 0 := by decide
      omega
  | k + 1, b, hb, htb, hch => by
    have hch2 : lat L cst t (k + 1) b < lat L cst t k b := by
      rcases hch with h | h
      · omega
      · simpa using h
    rcases jmin_or (cst := cst) t (lat L cst t k) b 12 with e | ⟨a, c, ha, hta, -, hc, e⟩
    · exact absurd hch2 (by show ¬ jmin cst t (lat L cst t k) b 12 < _; rw [e]; omega)
    · have e2 : lat L cst t (k + 1) b = lat L cst t k a + c := e
      have hcc := hc0 a b c hc
      have ha2 : k = 0 ∨ lat L cst t k a < lat L cst t (k - 1) a := by
        rcases Nat.eq_zero_or_pos k with h | h
        · exact Or.inl h
        · right
          obtain ⟨j, rfl⟩ : ∃ j, k = j + 1 := ⟨k - 1, by omega⟩
          have h1 := lat_edge (L := L) (k := j) ha hta htb hc
          have h2 := lat_le (L := L) (cst := cst) t j a
          simp only [Nat.add_sub_cancel]
          omega
      obtain ⟨u, hu, hsz, hua⟩ := lat_chain hc0 k a ha hta ha2
      have hbu : u.testBit b = false := by
        cases hq : u.testBit b with
        | false => rfl
        | true =>
          obtain ⟨-, -, j, hj, h1⟩ := hu b hq
          have h2 := lat_dec (L := L) (cst := cst) t b hj
          omega
      refine ⟨insB u b, fun i hi => ?_, ?_, by rw [insB_bit]; simp⟩
      · rw [insB_bit] at hi
        simp at hi
        rcases hi with hi | rfl
        · obtain ⟨h1, h2, j, hj, h3⟩ := hu i hi
          exact ⟨h1, h2, j, by omega, by omega⟩
        · exact ⟨hb, htb, k + 1, Nat.le_refl _, Int.le_refl _⟩
      · show pcN (insB u b) 12 = k + 1 + 1
        rw [pcN_ins (s := u) (d := b) 12 hb hbu (fun i _ => insB_bit u b i)]
        have : pcN u 12 = k + 1 := hsz
        omega
theorem lat_stable (hc0 : ∀ a b c, cst a b = some c → 0 ≤ c) {t b : Nat} (hb : b < 12) (htb : t.testBit b = true) : lat L cst t 12 b = lat L cst t 11 b := by
  have h := lat_le (L := L) (cst := cst) t 11 b
  rcases Int.lt_or_le (lat L cst t 12 b) (lat L cst t 11 b) with h2 | h2
  · obtain ⟨u, -, hs, -⟩ := lat_chain hc0 12 b hb htb (Or.inr h2)
    have := pcN_le u 12
    unfold sz at hs
    omega
  · have h3 : lat L cst t 12 b ≤ lat L cst t 11 b := h
    omega
def brk (F L : Nat → Int) (cst : Nat → Nat → Option Int) (t k : Nat) : Prop := ∃ b, b < 12 ∧ t.testBit b = true ∧ lat L cst t k b < F b
theorem brk_mono {t i k : Nat} (h : i ≤ k) (hb : brk F L cst t i) : brk F L cst t k := by
  obtain ⟨b, h1, h2, h3⟩ := hb
  have := lat_dec (L := L) (cst := cst) t b h
  exact ⟨b, h1, h2, by omega⟩
theorem brk_nagr {t k : Nat} (h : brk F L cst t k) : ¬ agr F L cst t := by
  rintro ⟨y, hy⟩
  obtain ⟨b, h1, h2, h3⟩ := h
  have h4 := lat_sol hy k b h1 h2
  have h5 := (hy.1 b h1 h2).1
  omega
theorem agr_of_stable {t k : Nat} (hs : ∀ b, b < 12 → t.testBit b = true → lat L cst t (k + 1) b = lat L cst t k b) (hn : ¬ brk F L cst t k) : sol F L cst t (lat L cst t k) := by
  refine ⟨fun d hd htd => ⟨?_, ?_⟩, fun a b c ha hb hta htb hc => ?_⟩
  · rcases Int.lt_or_le (lat L cst t k d) (F d) with h | h
    · exact absurd ⟨d, hd, htd, h⟩ hn
    · exact h
  · exact lat_dec (L := L) (cst := cst) t d (Nat.zero_le k)
  · rw [← hs b hb htb]
    exact lat_edge ha hta htb hc
theorem nagr_brk (hc0 : ∀ a b c, cst a b = some c → 0 ≤ c) {t : Nat} (h : ¬ agr F L cst t) : brk F L cst t 11 := by
  rcases Classical.em (brk F L cst t 11) with q | q
  · exact q
  · exact absurd ⟨_, agr_of_stable (k := 11) (fun b hb htb => lat_stable hc0 hb htb) q⟩ h
theorem agr_sub {s t : Nat} (h : sub s t) (ha : agr F L cst t) : agr F L cst s := by
  obtain ⟨y, h1, h2⟩ := ha
  exact ⟨y, fun d hd hs => h1 d hd (h d hs), fun a b c ha hb hsa hsb hc => h2 a b c ha hb (h a hsa) (h b hsb) hc⟩
/-- a set that breaks first at round k has more than k deeds -/
theorem brk_size (hc0 : ∀ a b c, cst a b = some c → 0 ≤ c) {t k : Nat} (h : brk F L cst t k) (hn : ∀ j, j < k → ¬ brk F L cst t j) : k + 1 ≤ sz t := by
  obtain ⟨b, h1, h2, h3⟩ := h
  have hch : k = 0 ∨ lat L cst t k b < lat L cst t (k - 1) b := by
    rcases Nat.eq_zero_or_pos k with q | q
    · exact Or.inl q
    · right
      have h4 : ¬ lat L cst t (k - 1) b < F b := fun q2 => hn (k - 1) (by omega) ⟨b, h1, h2, q2⟩
      omega
  obtain ⟨u, hu, hs, -⟩ := lat_chain hc0 k b h1 h2 hch
  have : pcN u 12 ≤ pcN t 12 := pcN_mono 12 (fun i _ hi => (hu i hi).2.1)
  unfold sz at hs ⊢
  omega
/-- a set that breaks at round k has a part with at most k + 1 deeds that breaks there -/
theorem brk_part {t : Nat} : ∀ (k b : Nat), b < 12 → t.testBit b = true → ∃ u : Nat, (∀ i, u.testBit i = true → i < 12 ∧ t.testBit i = true) ∧ sz u ≤ k + 1 ∧ u.testBit b = true ∧ lat L cst u k b ≤ lat L cst t k b
  | 0, b, hb, htb => by
    refine ⟨insB 0 b, fun i hi => ?_, ?_, by rw [insB_bit]; simp, Int.le_refl _⟩
    · rw [insB_bit] at hi
      simp at hi
      subst hi
      exact ⟨hb, htb⟩
    · show pcN (insB 0 b) 12 ≤ 1
      rw [pcN_ins (s := 0) (d := b) 12 hb (by simp) (fun i _ => insB_bit 0 b i)]
      have : pcN 0 12 = 0 := by decide
      omega
  | k + 1, b, hb, htb => by
    rcases jmin_or (cst := cst) t (lat L cst t k) b 12 with e | ⟨a, c, ha, hta, -, hc, e⟩
    · obtain ⟨u, h1, h2, h3, h4⟩ := brk_part (t := t) k b hb htb
      refine ⟨u, h1, by omega, h3, ?_⟩
      have e2 : lat L cst t (k + 1) b = lat L cst t k b := e
      have := lat_le (L := L) (cst := cst) u k b
      omega
    · obtain ⟨u, h1, h2, h3, h4⟩ := brk_part (t := t) k a ha hta
      have e2 : lat L cst t (k + 1) b = lat L cst t k a + c := e
      have hsub : sub u (insB u b) := fun i hi => by rw [insB_bit, hi]; simp
      have hbb : (insB u b).testBit b = true := by rw [insB_bit]; simp
      refine ⟨insB u b, fun i hi => ?_, ?_, hbb, ?_⟩
      · rw [insB_bit] at hi
        simp at hi
        rcases hi with hi | rfl
        · exact h1 i hi
        · exact ⟨hb, htb⟩
      · show pcN (insB u b) 12 ≤ k + 1 + 1
        cases hq : u.testBit b with
        | false =>
          rw [pcN_ins (s := u) (d := b) 12 hb hq (fun i _ => insB_bit u b i)]
          have : pcN u 12 ≤ k + 1 := h2
          omega
        | true =>
          have : pcN (insB u b) 12 = pcN u 12 := pcN_congr 12 (fun i _ => by
            rw [insB_bit]
            by_cases q : i = b
            · subst q; simp [hq]
            · simp [q])
          have h5 : pcN u 12 ≤ k + 1 := h2
          omega
      · have h5 := lat_edge (L := L) (k := k) ha (hsub a h3) hbb hc
        have h6 := lat_sub (L := L) (cst := cst) hsub k a
        omega
end NET
end
section
/-! ===== the least quarrel; the lightest set ===== -/
theorem sub_trans {a b c : Nat} (h1 : sub a b) (h2 : sub b c) : sub a c := fun i hi => h2 i (h1 i hi)
def low12 (t : Nat) : Prop := ∀ i, t.testBit i = true → i < 12
theorem set_ext {s t : Nat} (hs : low12 s) (ht : low12 t) (h : ∀ i, i < 12 → s.testBit i = t.testBit i) : s = t := by
  apply Nat.eq_of_testBit_eq
  intro i
  by_cases hi : i < 12
  · exact h i hi
  · have h1 : s.testBit i = false := by
      cases q : s.testBit i with
      | false => rfl
      | true => exact absurd (hs i q) hi
    have h2 : t.testBit i = false := by
      cases q : t.testBit i with
      | false => rfl
      | true => exact absurd (ht i q) hi
    rw [h1, h2]
theorem lt_bit {s t n : Nat} (hs : s.testBit n = false) (ht : t.testBit n = true) (h : ∀ j, n < j → s.testBit j = t.testBit j) : s < t := by
  have e : s / 2 ^ (n + 1) = t / 2 ^ (n + 1) := by
    apply Nat.eq_of_testBit_eq
    intro i
    rw [← Nat.shiftRight_eq_div_pow, ← Nat.shiftRight_eq_div_pow, Nat.testBit_shiftRight, Nat.testBit_shiftRight]
    exact h _ (by omega)
  have h1 : s % 2 ^ (n + 1) < 2 ^ n := by
    apply Nat.lt_pow_two_of_testBit
    intro i hi
    rw [Nat.testBit_mod_two_pow]
    by_cases q : i = n
    · subst q; simp [hs]
    · have : ¬ i < n + 1 := by omega
      simp [this]
  have h2 : 2 ^ n ≤ t % 2 ^ (n + 1) := by
    apply Nat.ge_two_pow_of_testBit
    rw [Nat.testBit_mod_two_pow]
    simp [ht]
  have h3 := Nat.div_add_mod s (2 ^ (n + 1))
  have h4 := Nat.div_add_mod t (2 ^ (n + 1))
  rw [e] at h3
  omega
/-- the set that lacks the first one in which they differ is the lesser -/
theorem set_lt {s t d : Nat} (hs : s.testBit d = false) (ht : t.testBit d = true) (h : ∀ i, d < i → s.testBit i = true → t.testBit i = true) : s < t := by
  rcases Nat.lt_trichotomy s t with q | q | q
  · exact q
  · rw [q, ht] at hs; cases hs
  · exfalso
    obtain ⟨j, hj1, hj2, hj3⟩ : ∃ j, s.testBit j = true ∧ t.testBit j = false ∧ ∀ i, j < i → s.testBit i = t.testBit i := by
      have hne : ∃ n, ∀ i, n ≤ i → s.testBit i = t.testBit i := by
        refine ⟨s, fun i hi => ?_⟩
        have h1 : s.testBit i = false := Nat.testBit_lt_two_pow (Nat.lt_of_le_of_lt hi Nat.lt_two_pow_self)
        have h2 : t.testBit i = false := Nat.testBit_lt_two_pow (Nat.lt_of_lt_of_le q (Nat.le_of_lt (Nat.lt_of_le_of_lt hi Nat.lt_two_pow_self)))
        rw [h1, h2]
      obtain ⟨n, hn⟩ := hne
      induction n with
      | zero => exact absurd (Nat.eq_of_testBit_eq (fun i => hn i (Nat.zero_le i))) (by omega)
      | succ n ih =>
        by_cases e : s.testBit n = t.testBit n
        · refine ih (fun i hi => ?_)
          by_cases e2 : i = n
          · rw [e2]; exact e
          · exact hn i (by omega)
        · cases hsn : s.testBit n with
          | true =>
            refine ⟨n, hsn, ?_, fun i hi => hn i (by omega)⟩
            cases htn : t.testBit n with
            | false => rfl
            | true => rw [hsn, htn] at e; exact absurd rfl e
          | false =>
            have htn : t.testBit n = true := by
              cases htn : t.testBit n with
              | true => rfl
              | false => rw [hsn, htn] at e; exact absurd rfl e
            have := lt_bit hsn htn (fun j hj => hn j (by omega))
            omega
    rcases Nat.lt_trichotomy d j with r | r | r
    · have := h j r hj1
      rw [hj2] at this; cases this
    · subst r; rw [hs] at hj1; cases hj1
    · have := hj3 d r
      rw [hs, ht] at this; cases this
def dif (a x : Nat) : Nat := a ^^^ (a &&& x)
theorem dif_bit (a x i : Nat) : (dif a x).testBit i = (a.testBit i && !x.testBit i) := by
  unfold dif
  rw [Nat.testBit_xor, Nat.testBit_and]
  cases a.testBit i <;> cases x.testBit i <;> rfl
section QUARREL
variable {F L : Nat → Int} {cst : Nat → Nat → Option Int}
theorem agr_congr {s t : Nat} (h : ∀ i, i < 12 → s.testBit i = t.testBit i) (ha : agr F L cst t) : agr F L cst s := by
  obtain ⟨y, h1, h2⟩ := ha
  exact ⟨y, fun d hd hs => h1 d hd (by rw [← h d hd]; exact hs), fun a b c ha hb hsa hsb hc => h2 a b c ha hb (by rw [← h a ha]; exact hsa) (by rw [← h b hb]; exact hsb) hc⟩
theorem agr_zero : agr F L cst 0 := ⟨F, fun d hd h => by simp at h, fun a b c ha hb h => by simp at h⟩
theorem brk_sub {s t k : Nat} (h : sub s t) (hb : brk F L cst s k) : brk F L cst t k := by
  obtain ⟨b, h1, h2, h3⟩ := hb
  have := lat_sub (L := L) (cst := cst) h k b
  exact ⟨b, h1, h b h2, by omega⟩
/-- the first round at which a set breaks -/
def fst (F L : Nat → Int) (cst : Nat → Nat → Option Int) (t k : Nat) : Prop := brk F L cst t k ∧ ∀ j, j < k → ¬ brk F L cst t j
theorem fst_ex (hc0 : ∀ a b c, cst a b = some c → 0 ≤ c) {t : Nat} (h : ¬ agr F L cst t) : ∃ k, fst F L cst t k ∧ k ≤ 11 := by
  obtain ⟨k, h1, h2⟩ := pk_least (fun k => brk F L cst t k) ⟨11, nagr_brk hc0 h⟩
  refine ⟨k, ⟨h1, h2⟩, ?_⟩
  rcases Nat.lt_or_ge 11 k with q | q
  · exact absurd (nagr_brk hc0 h) (h2 11 q)
  · exact q
theorem fst_uniq {t j k : Nat} (h1 : fst F L cst t j) (h2 : fst F L cst t k) : j = k := by
  rcases Nat.lt_trichotomy j k with q | q | q
  · exact absurd h1.1 (h2.2 j q)
  · exact q
  · exact absurd h2.1 (h1.2 k q)
/-- the least quarrel within A -/
def isQ (F L : Nat → Int) (cst : Nat → Nat → Option Int) (A q : Nat) : Prop := sub q A ∧ ¬ agr F L cst q ∧ ∀ t, sub t A → ¬ agr F L cst t → sz q < sz t ∨ (sz q = sz t ∧ q ≤ t)
theorem isQ_size (hc0 : ∀ a b c, cst a b = some c → 0 ≤ c) {A q k : Nat} (hq : isQ F L cst A q) (hk : fst F L cst A k) : sz q = k + 1 ∧ brk F L cst q k := by
  obtain ⟨hs, hn, hmin⟩ := hq
  obtain ⟨j, hj, -⟩ := fst_ex hc0 hn
  have h1 : k ≤ j := by
    rcases Nat.lt_or_ge j k with r | r
    · exact absurd (brk_sub hs hj.1) (hk.2 j r)
    · exact r
  have h2 := brk_size hc0 hj.1 hj.2
  obtain ⟨b, hb, htb, hlt⟩ := hk.1
  obtain ⟨u, hu1, hu2, hu3, hu4⟩ := brk_part (L := L) (cst := cst) k b hb htb
  have hbu : brk F L cst u k := ⟨b, hb, hu3, by omega⟩
  have h3 := hmin u (fun i hi => (hu1 i hi).2) (brk_nagr hbu)
  have h4 : sz q = k + 1 := by omega
  exact ⟨h4, brk_mono (show j ≤ k by omega) hj.1⟩
theorem isQ_keep (hc0 : ∀ a b c, cst a b = some c → 0 ≤ c) {A q k left : Nat} (hq : isQ F L cst A q) (hk : fst F L cst A k) (h1 : sub left A) (h2 : sub q left) : fst F L cst left k :=
  ⟨brk_sub h2 (isQ_size hc0 hq hk).2, fun j hj hb => hk.2 j hj (brk_sub h1 hb)⟩
theorem isQ_must (hc0 : ∀ a b c, cst a b = some c → 0 ≤ c) {A q k fewer d : Nat} (hq : isQ F L cst A q) (hk : fst F L cst A k) (h1 : sub fewer A) (hd : q.testBit d = true) (hf : fewer.testBit d = false) (hab : ∀ i, d < i → fewer.testBit i = true → q.testBit i = true) : ¬ fst F L cst fewer k := by
  intro hfk
  obtain ⟨b, hb, htb, hlt⟩ := hfk.1
  obtain ⟨u, hu1, hu2, hu3, hu4⟩ := brk_part (L := L) (cst := cst) k b hb htb
  have hbu : brk F L cst u k := ⟨b, hb, hu3, by omega⟩
  have hs := (isQ_size hc0 hq hk).1
  have h3 := hq.2.2 u (fun i hi => h1 i (hu1 i hi).2) (brk_nagr hbu)
  have hud : u.testBit d = false := by
    cases r : u.testBit d with
    | false => rfl
    | true => rw [(hu1 d r).2] at hf; cases hf
  have h4 := set_lt hud hd (fun i hi hui => hab i hi (hu1 i hui).2)
  omega
end QUARREL
/-! ===== the order of sets ===== -/
def wsN (wt : Nat → Int) (t : Nat) : Nat → Int
  | 0 => 0
  | n + 1 => wsN wt t n + (if t.testBit n = true then wt n else 0)
theorem wsN_congr {wt wt' : Nat → Int} {s t : Nat} : ∀ n, (∀ i, i < n → s.testBit i = t.testBit i ∧ (t.testBit i = true → wt i = wt' i)) → wsN wt s n = wsN wt' t n
  | 0, _ => rfl
  | n + 1, h => by
    have h1 := wsN_congr (wt := wt) (wt' := wt') (s := s) (t := t) n (fun i hi => h i (by omega))
    unfold wsN
    rw [h1, (h n (by omega)).1]
    by_cases q : t.testBit n = true
    · rw [if_pos q, if_pos q, (h n (by omega)).2 q]
    · rw [if_neg q, if_neg q]
theorem wsN_mono {wt : Nat → Int} {s t : Nat} : ∀ n, (∀ i, i < n → t.testBit i = true → 1 ≤ wt i) → (∀ i, i < n → s.testBit i = true → t.testBit i = true) → wsN wt s n ≤ wsN wt t n ∧ (wsN wt s n = wsN wt t n → ∀ i, i < n → s.testBit i = t.testBit i)
  | 0, _, _ => ⟨Int.le_refl _, fun _ i hi => by omega⟩
  | n + 1, hw, h => by
    obtain ⟨h1, h2⟩ := wsN_mono (wt := wt) (s := s) (t := t) n (fun i hi => hw i (by omega)) (fun i hi => h i (by omega))
    have hn := h n (by omega)
    have hwn := hw n (by omega)
    unfold wsN
    by_cases q : s.testBit n = true
    · rw [if_pos q, if_pos (hn q)]
      refine ⟨by omega, fun e i hi => ?_⟩
      by_cases r : i = n
      · rw [r, q, hn q]
      · exact h2 (by omega) i (by omega)
    · rw [if_neg q]
      by_cases r : t.testBit n = true
      · rw [if_pos r]
        have := hwn r
        exact ⟨by omega, fun e => by omega⟩
      · rw [if_neg r]
        refine ⟨by omega, fun e i hi => ?_⟩
        by_cases r2 : i = n
        · rw [r2]
          have a1 : s.testBit n = false := by simpa using q
          have a2 : t.testBit n = false := by simpa using r
          rw [a1, a2]
        · exact h2 (by omega) i (by omega)
def ws (wt : Nat → Int) (t : Nat) : Int := wsN wt t 12
/-- x is no worse than y: lighter, or as light with fewer, or as few and no greater -/
def nw (wt : Nat → Int) (x y : Nat) : Prop := ws wt x < ws wt y ∨ (ws wt x = ws wt y ∧ (sz x < sz y ∨ (sz x = sz y ∧ x ≤ y)))
theorem nw_refl (wt : Nat → Int) (x : Nat) : nw wt x x := Or.inr ⟨rfl, Or.inr ⟨rfl, Nat.le_refl x⟩⟩
theorem nw_trans {wt : Nat → Int} {x y z : Nat} (h1 : nw wt x y) (h2 : nw wt y z) : nw wt x z := by
  unfold nw at *
  omega
theorem nw_anti {wt : Nat → Int} {x y : Nat} (h1 : nw wt x y) (h2 : nw wt y x) : x = y := by
  unfold nw at *
  omega
theorem nw_total (wt : Nat → Int) (x y : Nat) : nw wt x y ∨ nw wt y x := by
  unfold nw
  omega
theorem nw_sub {wt : Nat → Int} {x y : Nat} (hw : ∀ i, i < 12 → y.testBit i = true → 1 ≤ wt i) (hx : low12 x) (hy : low12 y) (h : sub x y) : nw wt x y := by
  obtain ⟨h1, h2⟩ := wsN_mono (wt := wt) (s := x) (t := y) 12 hw (fun i _ => h i)
  unfold nw ws
  rcases Int.lt_or_le (wsN wt x 12) (wsN wt y 12) with q | q
  · exact Or.inl q
  · have e : wsN wt x 12 = wsN wt y 12 := by omega
    have e2 : x = y := set_ext hx hy (h2 e)
    subst e2
    exact Or.inr ⟨rfl, Or.inr ⟨rfl, Nat.le_refl _⟩⟩
/-- the forged ones within A -/
def isF (F L : Nat → Int) (cst : Nat → Nat → Option Int) (wt : Nat → Int) (A x : Nat) : Prop := sub x A ∧ agr F L cst (dif A x) ∧ ∀ t, sub t A → agr F L cst (dif A t) → nw wt x t
theorem isF_uniq {F L : Nat → Int} {cst : Nat → Nat → Option Int} {wt : Nat → Int} {A x y : Nat} (h1 : isF F L cst wt A x) (h2 : isF F L cst wt A y) : x = y := nw_anti (h1.2.2 y h2.1 h2.2.1) (h2.2.2 x h1.1 h1.2.1)
theorem isQ_uniq {F L : Nat → Int} {cst : Nat → Nat → Option Int} {A x y : Nat} (h1 : isQ F L cst A x) (h2 : isQ F L cst A y) : x = y := by
  have a := h1.2.2 y h2.1 h2.2.1
  have b := h2.2.2 x h1.1 h1.2.1
  omega
end
section
/-! ===== the timeline: one round ===== -/
theorem bt_nI {t : Nat} (h : t < 4294967296) (i : Nat) : bt (nI t) i = t.testBit i := by
  unfold bt nI
  show (BitVec.ofNat 32 t).getLsbD i = _
  rw [BitVec.getLsbD_ofNat]
  by_cases hi : i < 32
  · simp [hi]
  · have : t.testBit i = false := Nat.testBit_lt_two_pow (Nat.lt_of_lt_of_le h (by
      have : 2 ^ 32 ≤ 2 ^ i := Nat.pow_le_pow_right (by omega) (by omega)
      omega))
    simp [hi, this]
def nF (m : AM) (d : Nat) : Int := (m 16 d).toInt
def nL (m : AM) (d : Nat) : Int := (m 17 d).toInt
def nC (m : AM) (a b : Nat) : Option Int := if bt (m 19 a) b = true then some 0 else if bt (m 18 a) b = true then some (m 15 9).toInt else none
def TW (m : AM) : Prop := (∀ d, d < 12 → 0 ≤ nF m d ∧ nF m d ≤ 3000 ∧ 0 ≤ nL m d ∧ nL m d ≤ 3000) ∧ 0 ≤ (m 15 9).toInt ∧ (m 15 9).toInt ≤ 200
theorem TW_c {m : AM} (h : TW m) : ∀ a b c, nC m a b = some c → 0 ≤ c ∧ c ≤ 200 := by
  intro a b c hc
  unfold nC at hc
  have := h.2
  split at hc
  · cases hc; omega
  · split at hc
    · cases hc; omega
    · cases hc
theorem jmin_step_no {cst : Nat → Nat → Option Int} {t : Nat} {X : Nat → Int} {a b : Nat} (h : ¬ (t.testBit a = true ∧ t.testBit b = true ∧ ∃ c, cst a b = some c)) : jmin cst t X b (a + 1) = jmin cst t X b a := by
  conv => lhs; unfold jmin
  by_cases q : t.testBit a = true ∧ t.testBit b = true
  · rw [if_pos q]
    cases hc : cst a b with
    | none => rfl
    | some c => exact absurd ⟨q.1, q.2, c, hc⟩ h
  · rw [if_neg q]
theorem jmin_step_yes {cst : Nat → Nat → Option Int} {t : Nat} {X : Nat → Int} {a b : Nat} {c : Int} (ha : t.testBit a = true) (hb : t.testBit b = true) (hc : cst a b = some c) : jmin cst t X b (a + 1) = if X a + c < jmin cst t X b a then X a + c else jmin cst t X b a := by
  conv => lhs; unfold jmin
  rw [if_pos ⟨ha, hb⟩, hc]
theorem jmin_range {cst : Nat → Nat → Option Int} (hc0 : ∀ a b c, cst a b = some c → 0 ≤ c ∧ c ≤ 200) {t : Nat} {X : Nat → Int} (hX : ∀ b, b < 12 → 0 ≤ X b ∧ X b ≤ 3000) {b : Nat} (hb : b < 12) : ∀ n, n ≤ 12 → 0 ≤ jmin cst t X b n ∧ jmin cst t X b n ≤ 3000 := by
  intro n hn
  have h1 := jmin_le (cst := cst) t X b n
  have h2 := hX b hb
  rcases jmin_or (cst := cst) t X b n with e | ⟨a, c, ha, -, -, hc, e⟩
  · rw [e]; exact h2
  · have h3 := hc0 a b c hc
    have h4 := hX a (by omega)
    omega
theorem lat_range {cst : Nat → Nat → Option Int} (hc0 : ∀ a b c, cst a b = some c → 0 ≤ c ∧ c ≤ 200) {L : Nat → Int} {t : Nat} (hX : ∀ b, b < 12 → 0 ≤ L b ∧ L b ≤ 3000) : ∀ k b, b < 12 → 0 ≤ lat L cst t k b ∧ lat L cst t k b ≤ 3000
  | 0, b, hb => hX b hb
  | k + 1, b, hb => jmin_range hc0 (lat_range hc0 hX k) hb 12 (Nat.le_refl 12)
theorem i32_add {x y : Int32} (h1 : -2147483648 ≤ x.toInt + y.toInt) (h2 : x.toInt + y.toInt < 2147483648) : (x + y).toInt = x.toInt + y.toInt := by
  rw [Int32.toInt_add]
  exact Int.bmod_eq_of_le (by omega) (by omega)
theorem i32_sub {x y : Int32} (h1 : -2147483648 ≤ x.toInt - y.toInt) (h2 : x.toInt - y.toInt < 2147483648) : (x - y).toInt = x.toInt - y.toInt := by
  rw [Int32.toInt_sub]
  exact Int.bmod_eq_of_le (by omega) (by omega)
theorem i32_inj {x y : Int32} (h : x.toInt = y.toInt) : x = y := Int32.toInt_inj.mp h
/-- what a round has done so far: rows 22 (the years), 23 (those of before), 24 (the causes) -/
def LI (m : AM) (t : Nat) (u : AM) (ch : Bool) (P : Nat → Nat) : Prop :=
  (∀ k, k ≠ 22 → k ≠ 23 → k ≠ 24 → u k = m k) ∧ (∀ b, b < 12 → u 23 b = m 22 b) ∧ (∀ b, b < 12 → (u 22 b).toInt = jmin (nC m) t (fun b => (m 22 b).toInt) b (P b)) ∧
  (∀ b, b < 12 → ((u 22 b).toInt = (m 22 b).toInt ∧ u 24 b = m 24 b) ∨ ∃ a c, a < 12 ∧ t.testBit a = true ∧ t.testBit b = true ∧ nC m a b = some c ∧ u 24 b = nI a ∧ (u 22 b).toInt = (m 22 a).toInt + c ∧ (u 22 b).toInt < (m 22 b).toInt) ∧
  (ch = true ↔ ∃ b, b < 12 ∧ (u 22 b).toInt < (m 22 b).toInt)
theorem LI.P {m : AM} {t : Nat} {u : AM} {ch : Bool} {P P' : Nat → Nat} (h : LI m t u ch P) (hp : ∀ b, b < 12 → jmin (nC m) t (fun b => (m 22 b).toInt) b (P' b) = jmin (nC m) t (fun b => (m 22 b).toInt) b (P b)) : LI m t u ch P' :=
  ⟨h.1, h.2.1, fun b hb => by rw [h.2.2.1 b hb, hp b hb], h.2.2.2⟩
def LQ (m : AM) (t : Nat) : APost := fun z u => ∃ ch, z = some (b01 ch) ∧ LI m t u ch (fun _ => 12)
theorem w_low_in (m : AM) (hm : TW m) (hX : ∀ b, b < 12 → 0 ≤ (m 22 b).toInt ∧ (m 22 b).toInt ≤ 3000) (t a : Nat) (ht : t < 4096) (ha : a < 12) (bd : Int32) (hbd : ∀ b, b < 12 → (bt bd b = true ↔ (t.testBit a = true ∧ t.testBit b = true ∧ ∃ c, nC m a b = some c)))
    (kk : ∀ u ch, LI m t u ch (fun _ => a + 1) → AW 1 kX3_lowerOnce (LQ m t) 152 [some (.inr 15), some (.inl (nI t)), some (.inl (b01 ch)), some (.inl (nI a)), none, none, none] [] u) :
    ∀ (n j : Nat) (u : AM) (ch : Bool), j + n = 12 → LI m t u ch (fun b => if b < j then a + 1 else a) → AW 1 kX3_lowerOnce (LQ m t) 57 [some (.inr 15), some (.inl (nI t)), some (.inl (b01 ch)), some (.inl (nI a)), some (.inl bd), some (.inl (nI j)), none] [] u
  | 0, j, u, ch, h, hI => by
    obtain rfl : j = 12 := by omega
    refine st_X3_lowerOnce_57 ?_; simp only [bX3_lowerOnce_57, exP, stP, p1, p2, pr, pobj, parr, sh0, sh1, sh2, sh3, sh4, sh5, sh6, sh7, sh8, sh9, sh10, sh11, sh12, sh13, sh14, sh15, sh16, sh17, sh18, sh19, sh20, sh21, sh22, sh23, sh24, sh25, sh26, sh27, sh28, sh29, sh30, sh31, sh32, sh33, sh34, sh35, sh36, sh37, sh38, sh39, sh40, sh41, sh42, sh43, sh44, sh45, sh46, sh47, sh48, sh49, sh50, sh51, sh52, sh53, sh54, sh55, sh56, sh57, sh58, sh59, brP, brN, swP, amask, apush, List.getElem?_cons_zero, List.getElem?_cons_succ, List.set_cons_zero, List.set_cons_succ, List.take_succ_cons, List.take_zero, List.drop_succ_cons, List.drop_zero, List.reverse_cons, List.reverse_nil, List.nil_append, List.cons_append, List.length_cons, List.length_nil, true_and, and_true, Nat.zero_le, Nat.reduceLeDiff, Nat.reduceAdd, Nat.reduceEqDiff, false_imp_iff, true_imp_iff, not_false_eq_true, not_true_eq_false, imp_self, forall_const, lit_le (k := 12) (n := 12) (by omega) (by omega)]
    exact kk u ch (hI.P (fun b hb => by simp [hb]))
  | n + 1, j, u, ch, h, hI => by
    have hj : j < 12 := by omega
    have vj := eq_true (vp_in_nI (show j < 12 by omega) (show 12 < 2 ^ 31 by omega))
    have cj := nI_clamp (show j < 2 ^ 31 by omega)
    have va := eq_true (vp_in_nI (show a < 12 by omega) (show 12 < 2 ^ 31 by omega))
    have ca := nI_clamp (show a < 2 ^ 31 by omega)
    obtain ⟨h1, h2, h3, h4, h5⟩ := hI
    have hc0 := TW_c hm
    refine st_X3_lowerOnce_57 ?_; simp only [bX3_lowerOnce_57, exP, stP, p1, p2, pr, pobj, parr, sh0, sh1, sh2, sh3, sh4, sh5, sh6, sh7, sh8, sh9, sh10, sh11, sh12, sh13, sh14, sh15, sh16, sh17, sh18, sh19, sh20, sh21, sh22, sh23, sh24, sh25, sh26, sh27, sh28, sh29, sh30, sh31, sh32, sh33, sh34, sh35, sh36, sh37, sh38, sh39, sh40, sh41, sh42, sh43, sh44, sh45, sh46, sh47, sh48, sh49, sh50, sh51, sh52, sh53, sh54, sh55, sh56, sh57, sh58, sh59, brP, brN, swP, amask, apush, List.getElem?_cons_zero, List.getElem?_cons_succ, List.set_cons_zero, List.set_cons_succ, List.take_succ_cons, List.take_zero, List.drop_succ_cons, List.drop_zero, List.reverse_cons, List.reverse_nil, List.nil_append, List.cons_append, List.length_cons, List.length_nil, true_and, and_true, Nat.zero_le, Nat.reduceLeDiff, Nat.reduceAdd, Nat.reduceEqDiff, false_imp_iff, true_imp_iff, not_false_eq_true, not_true_eq_false, imp_self, forall_const, lit_nle (k := 12) (n := j) hj (by omega)]
    refine st_X3_lowerOnce_64 ?_; simp only [bX3_lowerOnce_64, exP, stP, p1, p2, pr, pobj, parr, sh0, sh1, sh2, sh3, sh4, sh5, sh6, sh7, sh8, sh9, sh10, sh11, sh12, sh13, sh14, sh15, sh16, sh17, sh18, sh19, sh20, sh21, sh22, sh23, sh24, sh25, sh26, sh27, sh28, sh29, sh30, sh31, sh32, sh33, sh34, sh35, sh36, sh37, sh38, sh39, sh40, sh41, sh42, sh43, sh44, sh45, sh46, sh47, sh48, sh49, sh50, sh51, sh52, sh53, sh54, sh55, sh56, sh57, sh58, sh59, brP, brN, swP, amask, apush, List.getElem?_cons_zero, List.getElem?_cons_succ, List.set_cons_zero, List.set_cons_succ, List.take_succ_cons, List.take_zero, List.drop_succ_cons, List.drop_zero, List.reverse_cons, List.reverse_nil, List.nil_append, List.cons_append, List.length_cons, List.length_nil, true_and, and_true, Nat.zero_le, Nat.reduceLeDiff, Nat.reduceAdd, Nat.reduceEqDiff, false_imp_iff, true_imp_iff, not_false_eq_true, not_true_eq_false, imp_self, forall_const]
    refine ⟨fun c => ?_, fun c => ?_⟩
    · refine kk u ch (LI.P ⟨h1, h2, h3, h4, h5⟩ (fun b hb => ?_))
      have hno : ¬ (t.testBit a = true ∧ t.testBit b = true ∧ ∃ c, nC m a b = some c) := by
        rw [← hbd b hb, c, b_0]; simp
      try dsimp only
      split
      · rfl
      · exact jmin_step_no hno
    · have back : ∀ (u' : AM) (ch' : Bool), LI m t u' ch' (fun b => if b < j + 1 then a + 1 else a) → AW 1 kX3_lowerOnce (LQ m t) 146 [some (.inr 15), some (.inl (nI t)), some (.inl (b01 ch')), some (.inl (nI a)), some (.inl bd), some (.inl (nI j)), none] [] u' := by
        intro u' ch' hI'
        refine st_X3_lowerOnce_146 ?_; simp only [bX3_lowerOnce_146, exP, stP, p1, p2, pr, pobj, parr, sh0, sh1, sh2, sh3, sh4, sh5, sh6, sh7, sh8, sh9, sh10, sh11, sh12, sh13, sh14, sh15, sh16, sh17, sh18, sh19, sh20, sh21, sh22, sh23, sh24, sh25, sh26, sh27, sh28, sh29, sh30, sh31, sh32, sh33, sh34, sh35, sh36, sh37, sh38, sh39, sh40, sh41, sh42, sh43, sh44, sh45, sh46, sh47, sh48, sh49, sh50, sh51, sh52, sh53, sh54, sh55, sh56, sh57, sh58, sh59, brP, brN, swP, amask, apush, List.getElem?_cons_zero, List.getElem?_cons_succ, List.set_cons_zero, List.set_cons_succ, List.take_succ_cons, List.take_zero, List.drop_succ_cons, List.drop_zero, List.reverse_cons, List.reverse_nil, List.nil_append, List.cons_append, List.length_cons, List.length_nil, true_and, and_true, Nat.zero_le, Nat.reduceLeDiff, Nat.reduceAdd, Nat.reduceEqDiff, false_imp_iff, true_imp_iff, not_false_eq_true, not_true_eq_false, imp_self, forall_const]
        rw [nI_1]
        exact w_low_in m hm hX t a ht ha bd hbd kk n (j + 1) u' ch' (by omega) hI'
      have skip : (jmin (nC m) t (fun b => (m 22 b).toInt) j (a + 1) = jmin (nC m) t (fun b => (m 22 b).toInt) j a) → LI m t u ch (fun b => if b < j + 1 then a + 1 else a) := by
        intro e
        refine LI.P ⟨h1, h2, h3, h4, h5⟩ (fun b hb => ?_)
        try dsimp only
        by_cases q : b < j
        · rw [if_pos q, if_pos (by omega)]
        · rw [if_neg q]
          by_cases q2 : b = j
          · subst q2
            rw [if_pos (by omega)]
            exact e
          · rw [if_neg (by omega)]
      have fin : ∀ lim : Int32, (∀ c, nC m a j = some c → lim.toInt = (m 22 a).toInt + c) → AW 1 kX3_lowerOnce (LQ m t) 103 [some (.inr 15), some (.inl (nI t)), some (.inl (b01 ch)), some (.inl (nI a)), some (.inl bd), some (.inl (nI j)), none] [.inl lim] u := by
        intro lim hlim
        refine st_X3_lowerOnce_103 ?_; simp only [bX3_lowerOnce_103, exP, stP, p1, p2, pr, pobj, parr, sh0, sh1, sh2, sh3, sh4, sh5, sh6, sh7, sh8, sh9, sh10, sh11, sh12, sh13, sh14, sh15, sh16, sh17, sh18, sh19, sh20, sh21, sh22, sh23, sh24, sh25, sh26, sh27, sh28, sh29, sh30, sh31, sh32, sh33, sh34, sh35, sh36, sh37, sh38, sh39, sh40, sh41, sh42, sh43, sh44, sh45, sh46, sh47, sh48, sh49, sh50, sh51, sh52, sh53, sh54, sh55, sh56, sh57, sh58, sh59, brP, brN, swP, amask, apush, List.getElem?_cons_zero, List.getElem?_cons_succ, List.set_cons_zero, List.set_cons_succ, List.take_succ_cons, List.take_zero, List.drop_succ_cons, List.drop_zero, List.reverse_cons, List.reverse_nil, List.nil_append, List.cons_append, List.length_cons, List.length_nil, true_and, and_true, Nat.zero_le, Nat.reduceLeDiff, Nat.reduceAdd, Nat.reduceEqDiff, false_imp_iff, true_imp_iff, not_false_eq_true, not_true_eq_false, imp_self, forall_const]
        refine ⟨_, ⟨0, by decide, c_holds _ bd j (by omega)⟩, ?_⟩; rintro _ _ ⟨rfl, rfl⟩; simp only [exP, stP, p1, p2, pr, pobj, parr, sh0, sh1, sh2, sh3, sh4, sh5, sh6, sh7, sh8, sh9, sh10, sh11, sh12, sh13, sh14, sh15, sh16, sh17, sh18, sh19, sh20, sh21, sh22, sh23, sh24, sh25, sh26, sh27, sh28, sh29, sh30, sh31, sh32, sh33, sh34, sh35, sh36, sh37, sh38, sh39, sh40, sh41, sh42, sh43, sh44, sh45, sh46, sh47, sh48, sh49, sh50, sh51, sh52, sh53, sh54, sh55, sh56, sh57, sh58, sh59, brP, brN, swP, amask, apush, List.getElem?_cons_zero, List.getElem?_cons_succ, List.set_cons_zero, List.set_cons_succ, List.take_succ_cons, List.take_zero, List.drop_succ_cons, List.drop_zero, List.reverse_cons, List.reverse_nil, List.nil_append, List.cons_append, List.length_cons, List.length_nil, true_and, and_true, Nat.zero_le, Nat.reduceLeDiff, Nat.reduceAdd, Nat.reduceEqDiff, false_imp_iff, true_imp_iff, not_false_eq_true, not_true_eq_false, imp_self, forall_const, b01_0]
        refine ⟨fun c1 => ?_, fun c1 => ?_⟩
        · refine back u ch (skip (jmin_step_no ?_))
          rw [← hbd j hj, c1]; simp
        · have c2 : bt bd j = true := by simpa using c1
          obtain ⟨hta, htj, cc, hcc⟩ := (hbd j hj).mp c2
          have e1 := hlim cc hcc
          have e2 := h3 j hj
          simp only [if_neg (Nat.lt_irrefl j)] at e2
          have e3 := jmin_step_yes (X := fun b => (m 22 b).toInt) hta htj hcc
          refine st_X3_lowerOnce_115 ?_; simp only [bX3_lowerOnce_115, exP, stP, p1, p2, pr, pobj, parr, sh0, sh1, sh2, sh3, sh4, sh5, sh6, sh7, sh8, sh9, sh10, sh11, sh12, sh13, sh14, sh15, sh16, sh17, sh18, sh19, sh20, sh21, sh22, sh23, sh24, sh25, sh26, sh27, sh28, sh29, sh30, sh31, sh32, sh33, sh34, sh35, sh36, sh37, sh38, sh39, sh40, sh41, sh42, sh43, sh44, sh45, sh46, sh47, sh48, sh49, sh50, sh51, sh52, sh53, sh54, sh55, sh56, sh57, sh58, sh59, brP, brN, swP, amask, apush, List.getElem?_cons_zero, List.getElem?_cons_succ, List.set_cons_zero, List.set_cons_succ, List.take_succ_cons, List.take_zero, List.drop_succ_cons, List.drop_zero, List.reverse_cons, List.reverse_nil, List.nil_append, List.cons_append, List.length_cons, List.length_nil, true_and, and_true, Nat.zero_le, Nat.reduceLeDiff, Nat.reduceAdd, Nat.reduceEqDiff, false_imp_iff, true_imp_iff, not_false_eq_true, not_true_eq_false, imp_self, forall_const, vj, cj]
          refine ⟨fun c3 => ?_, fun c3 => ?_⟩
          · rw [Int32.le_iff_toInt_le] at c3
            refine back u ch (skip ?_)
            rw [e3, if_neg]
            show ¬ (m 22 a).toInt + cc < _
            omega
          · rw [Int32.le_iff_toInt_le] at c3
            refine st_X3_lowerOnce_127 ?_; simp only [bX3_lowerOnce_127, exP, stP, p1, p2, pr, pobj, parr, sh0, sh1, sh2, sh3, sh4, sh5, sh6, sh7, sh8, sh9, sh10, sh11, sh12, sh13, sh14, sh15, sh16, sh17, sh18, sh19, sh20, sh21, sh22, sh23, sh24, sh25, sh26, sh27, sh28, sh29, sh30, sh31, sh32, sh33, sh34, sh35, sh36, sh37, sh38, sh39, sh40, sh41, sh42, sh43, sh44, sh45, sh46, sh47, sh48, sh49, sh50, sh51, sh52, sh53, sh54, sh55, sh56, sh57, sh58, sh59, brP, brN, swP, amask, apush, List.getElem?_cons_zero, List.getElem?_cons_succ, List.set_cons_zero, List.set_cons_succ, List.take_succ_cons, List.take_zero, List.drop_succ_cons, List.drop_zero, List.reverse_cons, List.reverse_nil, List.nil_append, List.cons_append, List.length_cons, List.length_nil, true_and, and_true, Nat.zero_le, Nat.reduceLeDiff, Nat.reduceAdd, Nat.reduceEqDiff, false_imp_iff, true_imp_iff, not_false_eq_true, not_true_eq_false, imp_self, forall_const, vj, cj]
            refine back _ true ⟨fun k k1 k2 k3 => ?_, fun b hb => ?_, fun b hb => ?_, fun b hb => ?_, ?_⟩
            · rw [aup_ne k3, aup_ne k1]; exact h1 k k1 k2 k3
            · rw [aup_ne (by omega), aup_ne (by omega)]; exact h2 b hb
            · rw [aup_ne (by omega), aup_eq]
              dsimp only
              by_cases q : b = j
              · subst q
                rw [upd_eq, if_pos (by omega), e3, if_pos]
                · exact e1
                · show (m 22 a).toInt + cc < _
                  omega
              · rw [upd_ne q, h3 b hb]
                dsimp only
                by_cases q2 : b < j
                · rw [if_pos q2, if_pos (by omega)]
                · rw [if_neg q2, if_neg (by omega)]
            · rw [aup_ne (by omega), aup_eq, aup_eq, aup_ne (by omega)]
              have e4 := jmin_le (cst := nC m) t (fun b => (m 22 b).toInt) j a
              by_cases q : b = j
              · subst q
                rw [upd_eq, upd_eq]
                refine Or.inr ⟨a, cc, ha, hta, htj, hcc, rfl, e1, ?_⟩
                try dsimp only at e4
                omega
              · rw [upd_ne q, upd_ne q]
                exact h4 b hb
            · have e4 := jmin_le (cst := nC m) t (fun b => (m 22 b).toInt) j a
              try dsimp only at e4
              refine ⟨fun _ => ⟨j, hj, ?_⟩, fun _ => rfl⟩
              rw [aup_ne (by omega), aup_eq, upd_eq]
              omega
      have u19 : u 19 = m 19 := h1 19 (by omega) (by omega) (by omega)
      have u15 : u 15 = m 15 := h1 15 (by omega) (by omega) (by omega)
      have u23 : u 23 a = m 22 a := h2 a ha
      refine st_X3_lowerOnce_69 ?_; simp only [bX3_lowerOnce_69, exP, stP, p1, p2, pr, pobj, parr, sh0, sh1, sh2, sh3, sh4, sh5, sh6, sh7, sh8, sh9, sh10, sh11, sh12, sh13, sh14, sh15, sh16, sh17, sh18, sh19, sh20, sh21, sh22, sh23, sh24, sh25, sh26, sh27, sh28, sh29, sh30, sh31, sh32, sh33, sh34, sh35, sh36, sh37, sh38, sh39, sh40, sh41, sh42, sh43, sh44, sh45, sh46, sh47, sh48, sh49, sh50, sh51, sh52, sh53, sh54, sh55, sh56, sh57, sh58, sh59, brP, brN, swP, amask, apush, List.getElem?_cons_zero, List.getElem?_cons_succ, List.set_cons_zero, List.set_cons_succ, List.take_succ_cons, List.take_zero, List.drop_succ_cons, List.drop_zero, List.reverse_cons, List.reverse_nil, List.nil_append, List.cons_append, List.length_cons, List.length_nil, true_and, and_true, Nat.zero_le, Nat.reduceLeDiff, Nat.reduceAdd, Nat.reduceEqDiff, false_imp_iff, true_imp_iff, not_false_eq_true, not_true_eq_false, imp_self, forall_const, va, ca]
      refine ⟨_, ⟨0, by decide, c_holds _ _ j (by omega)⟩, ?_⟩; rintro _ _ ⟨rfl, rfl⟩; simp only [exP, stP, p1, p2, pr, pobj, parr, sh0, sh1, sh2, sh3, sh4, sh5, sh6, sh7, sh8, sh9, sh10, sh11, sh12, sh13, sh14, sh15, sh16, sh17, sh18, sh19, sh20, sh21, sh22, sh23, sh24, sh25, sh26, sh27, sh28, sh29, sh30, sh31, sh32, sh33, sh34, sh35, sh36, sh37, sh38, sh39, sh40, sh41, sh42, sh43, sh44, sh45, sh46, sh47, sh48, sh49, sh50, sh51, sh52, sh53, sh54, sh55, sh56, sh57, sh58, sh59, brP, brN, swP, amask, apush, List.getElem?_cons_zero, List.getElem?_cons_succ, List.set_cons_zero, List.set_cons_succ, List.take_succ_cons, List.take_zero, List.drop_succ_cons, List.drop_zero, List.reverse_cons, List.reverse_nil, List.nil_append, List.cons_append, List.length_cons, List.length_nil, true_and, and_true, Nat.zero_le, Nat.reduceLeDiff, Nat.reduceAdd, Nat.reduceEqDiff, false_imp_iff, true_imp_iff, not_false_eq_true, not_true_eq_false, imp_self, forall_const, b01_0]
      refine ⟨fun c1 => ?_, fun c1 => ?_⟩
      · refine st_X3_lowerOnce_92 ?_; simp only [bX3_lowerOnce_92, exP, stP, p1, p2, pr, pobj, parr, sh0, sh1, sh2, sh3, sh4, sh5, sh6, sh7, sh8, sh9, sh10, sh11, sh12, sh13, sh14, sh15, sh16, sh17, sh18, sh19, sh20, sh21, sh22, sh23, sh24, sh25, sh26, sh27, sh28, sh29, sh30, sh31, sh32, sh33, sh34, sh35, sh36, sh37, sh38, sh39, sh40, sh41, sh42, sh43, sh44, sh45, sh46, sh47, sh48, sh49, sh50, sh51, sh52, sh53, sh54, sh55, sh56, sh57, sh58, sh59, brP, brN, swP, amask, apush, List.getElem?_cons_zero, List.getElem?_cons_succ, List.set_cons_zero, List.set_cons_succ, List.take_succ_cons, List.take_zero, List.drop_succ_cons, List.drop_zero, List.reverse_cons, List.reverse_nil, List.nil_append, List.cons_append, List.length_cons, List.length_nil, true_and, and_true, Nat.zero_le, Nat.reduceLeDiff, Nat.reduceAdd, Nat.reduceEqDiff, false_imp_iff, true_imp_iff, not_false_eq_true, not_true_eq_false, imp_self, forall_const, va, ca]
        refine fin _ (fun cc hcc => ?_)
        rw [u19] at c1
        unfold nC at hcc
        rw [c1] at hcc
        simp only [Bool.false_eq_true, if_false] at hcc
        split at hcc
        · cases hcc
          have := hX a ha
          have := hm.2
          rw [u23, u15, i32_add (by omega) (by omega)]
        · cases hcc
      · refine st_X3_lowerOnce_83 ?_; simp only [bX3_lowerOnce_83, exP, stP, p1, p2, pr, pobj, parr, sh0, sh1, sh2, sh3, sh4, sh5, sh6, sh7, sh8, sh9, sh10, sh11, sh12, sh13, sh14, sh15, sh16, sh17, sh18, sh19, sh20, sh21, sh22, sh23, sh24, sh25, sh26, sh27, sh28, sh29, sh30, sh31, sh32, sh33, sh34, sh35, sh36, sh37, sh38, sh39, sh40, sh41, sh42, sh43, sh44, sh45, sh46, sh47, sh48, sh49, sh50, sh51, sh52, sh53, sh54, sh55, sh56, sh57, sh58, sh59, brP, brN, swP, amask, apush, List.getElem?_cons_zero, List.getElem?_cons_succ, List.set_cons_zero, List.set_cons_succ, List.take_succ_cons, List.take_zero, List.drop_succ_cons, List.drop_zero, List.reverse_cons, List.reverse_nil, List.nil_append, List.cons_append, List.length_cons, List.length_nil, true_and, and_true, Nat.zero_le, Nat.reduceLeDiff, Nat.reduceAdd, Nat.reduceEqDiff, false_imp_iff, true_imp_iff, not_false_eq_true, not_true_eq_false, imp_self, forall_const, va, ca]
        refine fin _ (fun cc hcc => ?_)
        rw [u19] at c1
        have c2 : bt (m 19 a) j = true := by simpa using c1
        unfold nC at hcc
        rw [if_pos c2] at hcc
        cases hcc
        rw [u23]; omega
theorem w_low_out (m : AM) (hm : TW m) (hX : ∀ b, b < 12 → 0 ≤ (m 22 b).toInt ∧ (m 22 b).toInt ≤ 3000) (t : Nat) (ht : t < 4096) : ∀ (n a : Nat) (u : AM) (ch : Bool), a + n = 12 → LI m t u ch (fun _ => a) → AW 1 kX3_lowerOnce (LQ m t) 19 [some (.inr 15), some (.inl (nI t)), some (.inl (b01 ch)), some (.inl (nI a)), none, none, none] [] u
  | 0, a, u, ch, h, hI => by
    obtain rfl : a = 12 := by omega
    refine st_X3_lowerOnce_19 ?_; simp only [bX3_lowerOnce_19, exP, stP, p1, p2, pr, pobj, parr, sh0, sh1, sh2, sh3, sh4, sh5, sh6, sh7, sh8, sh9, sh10, sh11, sh12, sh13, sh14, sh15, sh16, sh17, sh18, sh19, sh20, sh21, sh22, sh23, sh24, sh25, sh26, sh27, sh28, sh29, sh30, sh31, sh32, sh33, sh34, sh35, sh36, sh37, sh38, sh39, sh40, sh41, sh42, sh43, sh44, sh45, sh46, sh47, sh48, sh49, sh50, sh51, sh52, sh53, sh54, sh55, sh56, sh57, sh58, sh59, brP, brN, swP, amask, apush, List.getElem?_cons_zero, List.getElem?_cons_succ, List.set_cons_zero, List.set_cons_succ, List.take_succ_cons, List.take_zero, List.drop_succ_cons, List.drop_zero, List.reverse_cons, List.reverse_nil, List.nil_append, List.cons_append, List.length_cons, List.length_nil, true_and, and_true, Nat.zero_le, Nat.reduceLeDiff, Nat.reduceAdd, Nat.reduceEqDiff, false_imp_iff, true_imp_iff, not_false_eq_true, not_true_eq_false, imp_self, forall_const, lit_le (k := 12) (n := 12) (by omega) (by omega)]
    refine st_X3_lowerOnce_158 ?_; simp only [bX3_lowerOnce_158, exP, stP, p1, p2, pr, pobj, parr, sh0, sh1, sh2, sh3, sh4, sh5, sh6, sh7, sh8, sh9, sh10, sh11, sh12, sh13, sh14, sh15, sh16, sh17, sh18, sh19, sh20, sh21, sh22, sh23, sh24, sh25, sh26, sh27, sh28, sh29, sh30, sh31, sh32, sh33, sh34, sh35, sh36, sh37, sh38, sh39, sh40, sh41, sh42, sh43, sh44, sh45, sh46, sh47, sh48, sh49, sh50, sh51, sh52, sh53, sh54, sh55, sh56, sh57, sh58, sh59, brP, brN, swP, amask, apush, List.getElem?_cons_zero, List.getElem?_cons_succ, List.set_cons_zero, List.set_cons_succ, List.take_succ_cons, List.take_zero, List.drop_succ_cons, List.drop_zero, List.reverse_cons, List.reverse_nil, List.nil_append, List.cons_append, List.length_cons, List.length_nil, true_and, and_true, Nat.zero_le, Nat.reduceLeDiff, Nat.reduceAdd, Nat.reduceEqDiff, false_imp_iff, true_imp_iff, not_false_eq_true, not_true_eq_false, imp_self, forall_const]
    exact ⟨Or.inr (b01_01 ch), ch, rfl, hI⟩
  | n + 1, a, u, ch, h, hI => by
    have ha : a < 12 := by omega
    have va := eq_true (vp_in_nI (show a < 12 by omega) (show 12 < 2 ^ 31 by omega))
    have ca := nI_clamp (show a < 2 ^ 31 by omega)
    have next : ∀ u ch, LI m t u ch (fun _ => a + 1) → AW 1 kX3_lowerOnce (LQ m t) 152 [some (.inr 15), some (.inl (nI t)), some (.inl (b01 ch)), some (.inl (nI a)), none, none, none] [] u := by
      intro u ch hI
      refine st_X3_lowerOnce_152 ?_; simp only [bX3_lowerOnce_152, exP, stP, p1, p2, pr, pobj, parr, sh0, sh1, sh2, sh3, sh4, sh5, sh6, sh7, sh8, sh9, sh10, sh11, sh12, sh13, sh14, sh15, sh16, sh17, sh18, sh19, sh20, sh21, sh22, sh23, sh24, sh25, sh26, sh27, sh28, sh29, sh30, sh31, sh32, sh33, sh34, sh35, sh36, sh37, sh38, sh39, sh40, sh41, sh42, sh43, sh44, sh45, sh46, sh47, sh48, sh49, sh50, sh51, sh52, sh53, sh54, sh55, sh56, sh57, sh58, sh59, brP, brN, swP, amask, apush, List.getElem?_cons_zero, List.getElem?_cons_succ, List.set_cons_zero, List.set_cons_succ, List.take_succ_cons, List.take_zero, List.drop_succ_cons, List.drop_zero, List.reverse_cons, List.reverse_nil, List.nil_append, List.cons_append, List.length_cons, List.length_nil, true_and, and_true, Nat.zero_le, Nat.reduceLeDiff, Nat.reduceAdd, Nat.reduceEqDiff, false_imp_iff, true_imp_iff, not_false_eq_true, not_true_eq_false, imp_self, forall_const]
      rw [nI_1]
      exact w_low_out m hm hX t ht n (a + 1) u ch (by omega) hI
    have inner : ∀ bd : Int32, (∀ b, b < 12 → (bt bd b = true ↔ (t.testBit a = true ∧ t.testBit b = true ∧ ∃ c, nC m a b = some c))) → AW 1 kX3_lowerOnce (LQ m t) 52 [some (.inr 15), some (.inl (nI t)), some (.inl (b01 ch)), some (.inl (nI a)), none, none, none] [.inl bd] u := by
      intro bd hbd
      refine st_X3_lowerOnce_52 ?_; simp only [bX3_lowerOnce_52, exP, stP, p1, p2, pr, pobj, parr, sh0, sh1, sh2, sh3, sh4, sh5, sh6, sh7, sh8, sh9, sh10, sh11, sh12, sh13, sh14, sh15, sh16, sh17, sh18, sh19, sh20, sh21, sh22, sh23, sh24, sh25, sh26, sh27, sh28, sh29, sh30, sh31, sh32, sh33, sh34, sh35, sh36, sh37, sh38, sh39, sh40, sh41, sh42, sh43, sh44, sh45, sh46, sh47, sh48, sh49, sh50, sh51, sh52, sh53, sh54, sh55, sh56, sh57, sh58, sh59, brP, brN, swP, amask, apush, List.getElem?_cons_zero, List.getElem?_cons_succ, List.set_cons_zero, List.set_cons_succ, List.take_succ_cons, List.take_zero, List.drop_succ_cons, List.drop_zero, List.reverse_cons, List.reverse_nil, List.nil_append, List.cons_append, List.length_cons, List.length_nil, true_and, and_true, Nat.zero_le, Nat.reduceLeDiff, Nat.reduceAdd, Nat.reduceEqDiff, false_imp_iff, true_imp_iff, not_false_eq_true, not_true_eq_false, imp_self, forall_const]
      exact w_low_in m hm hX t a ht ha bd hbd next 12 0 u ch rfl (hI.P (fun b hb => by simp))
    have u19 : u 19 = m 19 := hI.1 19 (by omega) (by omega) (by omega)
    have u18 : u 18 = m 18 := hI.1 18 (by omega) (by omega) (by omega)
    refine st_X3_lowerOnce_19 ?_; simp only [bX3_lowerOnce_19, exP, stP, p1, p2, pr, pobj, parr, sh0, sh1, sh2, sh3, sh4, sh5, sh6, sh7, sh8, sh9, sh10, sh11, sh12, sh13, sh14, sh15, sh16, sh17, sh18, sh19, sh20, sh21, sh22, sh23, sh24, sh25, sh26, sh27, sh28, sh29, sh30, sh31, sh32, sh33, sh34, sh35, sh36, sh37, sh38, sh39, sh40, sh41, sh42, sh43, sh44, sh45, sh46, sh47, sh48, sh49, sh50, sh51, sh52, sh53, sh54, sh55, sh56, sh57, sh58, sh59, brP, brN, swP, amask, apush, List.getElem?_cons_zero, List.getElem?_cons_succ, List.set_cons_zero, List.set_cons_succ, List.take_succ_cons, List.take_zero, List.drop_succ_cons, List.drop_zero, List.reverse_cons, List.reverse_nil, List.nil_append, List.cons_append, List.length_cons, List.length_nil, true_and, and_true, Nat.zero_le, Nat.reduceLeDiff, Nat.reduceAdd, Nat.reduceEqDiff, false_imp_iff, true_imp_iff, not_false_eq_true, not_true_eq_false, imp_self, forall_const, lit_nle (k := 12) (n := a) ha (by omega)]
    refine st_X3_lowerOnce_25 ?_; simp only [bX3_lowerOnce_25, exP, stP, p1, p2, pr, pobj, parr, sh0, sh1, sh2, sh3, sh4, sh5, sh6, sh7, sh8, sh9, sh10, sh11, sh12, sh13, sh14, sh15, sh16, sh17, sh18, sh19, sh20, sh21, sh22, sh23, sh24, sh25, sh26, sh27, sh28, sh29, sh30, sh31, sh32, sh33, sh34, sh35, sh36, sh37, sh38, sh39, sh40, sh41, sh42, sh43, sh44, sh45, sh46, sh47, sh48, sh49, sh50, sh51, sh52, sh53, sh54, sh55, sh56, sh57, sh58, sh59, brP, brN, swP, amask, apush, List.getElem?_cons_zero, List.getElem?_cons_succ, List.set_cons_zero, List.set_cons_succ, List.take_succ_cons, List.take_zero, List.drop_succ_cons, List.drop_zero, List.reverse_cons, List.reverse_nil, List.nil_append, List.cons_append, List.length_cons, List.length_nil, true_and, and_true, Nat.zero_le, Nat.reduceLeDiff, Nat.reduceAdd, Nat.reduceEqDiff, false_imp_iff, true_imp_iff, not_false_eq_true, not_true_eq_false, imp_self, forall_const]
    refine ⟨_, ⟨0, by decide, c_holds _ _ a (by omega)⟩, ?_⟩; rintro _ _ ⟨rfl, rfl⟩; simp only [exP, stP, p1, p2, pr, pobj, parr, sh0, sh1, sh2, sh3, sh4, sh5, sh6, sh7, sh8, sh9, sh10, sh11, sh12, sh13, sh14, sh15, sh16, sh17, sh18, sh19, sh20, sh21, sh22, sh23, sh24, sh25, sh26, sh27, sh28, sh29, sh30, sh31, sh32, sh33, sh34, sh35, sh36, sh37, sh38, sh39, sh40, sh41, sh42, sh43, sh44, sh45, sh46, sh47, sh48, sh49, sh50, sh51, sh52, sh53, sh54, sh55, sh56, sh57, sh58, sh59, brP, brN, swP, amask, apush, List.getElem?_cons_zero, List.getElem?_cons_succ, List.set_cons_zero, List.set_cons_succ, List.take_succ_cons, List.take_zero, List.drop_succ_cons, List.drop_zero, List.reverse_cons, List.reverse_nil, List.nil_append, List.cons_append, List.length_cons, List.length_nil, true_and, and_true, Nat.zero_le, Nat.reduceLeDiff, Nat.reduceAdd, Nat.reduceEqDiff, false_imp_iff, true_imp_iff, not_false_eq_true, not_true_eq_false, imp_self, forall_const, b01_0, bt_nI (show t < 4294967296 by omega)]
    refine ⟨fun c => ?_, fun c => ?_⟩
    · refine st_X3_lowerOnce_51 ?_; simp only [bX3_lowerOnce_51, exP, stP, p1, p2, pr, pobj, parr, sh0, sh1, sh2, sh3, sh4, sh5, sh6, sh7, sh8, sh9, sh10, sh11, sh12, sh13, sh14, sh15, sh16, sh17, sh18, sh19, sh20, sh21, sh22, sh23, sh24, sh25, sh26, sh27, sh28, sh29, sh30, sh31, sh32, sh33, sh34, sh35, sh36, sh37, sh38, sh39, sh40, sh41, sh42, sh43, sh44, sh45, sh46, sh47, sh48, sh49, sh50, sh51, sh52, sh53, sh54, sh55, sh56, sh57, sh58, sh59, brP, brN, swP, amask, apush, List.getElem?_cons_zero, List.getElem?_cons_succ, List.set_cons_zero, List.set_cons_succ, List.take_succ_cons, List.take_zero, List.drop_succ_cons, List.drop_zero, List.reverse_cons, List.reverse_nil, List.nil_append, List.cons_append, List.length_cons, List.length_nil, true_and, and_true, Nat.zero_le, Nat.reduceLeDiff, Nat.reduceAdd, Nat.reduceEqDiff, false_imp_iff, true_imp_iff, not_false_eq_true, not_true_eq_false, imp_self, forall_const]
      refine inner 0 (fun b hb => ?_)
      rw [b_0]
      simp [c]
    · have c2 : t.testBit a = true := by simpa using c
      refine st_X3_lowerOnce_33 ?_; simp only [bX3_lowerOnce_33, exP, stP, p1, p2, pr, pobj, parr, sh0, sh1, sh2, sh3, sh4, sh5, sh6, sh7, sh8, sh9, sh10, sh11, sh12, sh13, sh14, sh15, sh16, sh17, sh18, sh19, sh20, sh21, sh22, sh23, sh24, sh25, sh26, sh27, sh28, sh29, sh30, sh31, sh32, sh33, sh34, sh35, sh36, sh37, sh38, sh39, sh40, sh41, sh42, sh43, sh44, sh45, sh46, sh47, sh48, sh49, sh50, sh51, sh52, sh53, sh54, sh55, sh56, sh57, sh58, sh59, brP, brN, swP, amask, apush, List.getElem?_cons_zero, List.getElem?_cons_succ, List.set_cons_zero, List.set_cons_succ, List.take_succ_cons, List.take_zero, List.drop_succ_cons, List.drop_zero, List.reverse_cons, List.reverse_nil, List.nil_append, List.cons_append, List.length_cons, List.length_nil, true_and, and_true, Nat.zero_le, Nat.reduceLeDiff, Nat.reduceAdd, Nat.reduceEqDiff, false_imp_iff, true_imp_iff, not_false_eq_true, not_true_eq_false, imp_self, forall_const, va, ca]
      refine inner _ (fun b hb => ?_)
      rw [b_and, b_or, bt_nI (by omega), u19, u18]
      unfold nC
      rw [c2]
      cases bt (m 19 a) b <;> cases bt (m 18 a) b <;> simp
theorem c_lowerOnce (m : AM) (hm : TW m) (hX : ∀ b, b < 12 → 0 ≤ (m 22 b).toInt ∧ (m 22 b).toInt ≤ 3000) (t : Nat) (ht : t < 4096) : AC 1 kX3_lowerOnce [.inr 15, .inl (nI t)] m (LQ m t) := by
  refine AC_of own_X3_lowerOnce (ls := [some (.inr 15), some (.inl (nI t)), none, none, none, none, none]) (z := 5) (Nat.le_of_ble_eq_true rfl) rfl ?_
  refine st_X3_lowerOnce_0 ?_; simp only [bX3_lowerOnce_0, exP, stP, p1, p2, pr, pobj, parr, sh0, sh1, sh2, sh3, sh4, sh5, sh6, sh7, sh8, sh9, sh10, sh11, sh12, sh13, sh14, sh15, sh16, sh17, sh18, sh19, sh20, sh21, sh22, sh23, sh24, sh25, sh26, sh27, sh28, sh29, sh30, sh31, sh32, sh33, sh34, sh35, sh36, sh37, sh38, sh39, sh40, sh41, sh42, sh43, sh44, sh45, sh46, sh47, sh48, sh49, sh50, sh51, sh52, sh53, sh54, sh55, sh56, sh57, sh58, sh59, brP, brN, swP, amask, apush, List.getElem?_cons_zero, List.getElem?_cons_succ, List.set_cons_zero, List.set_cons_succ, List.take_succ_cons, List.take_zero, List.drop_succ_cons, List.drop_zero, List.reverse_cons, List.reverse_nil, List.nil_append, List.cons_append, List.length_cons, List.length_nil, true_and, and_true, Nat.zero_le, Nat.reduceLeDiff, Nat.reduceAdd, Nat.reduceEqDiff, false_imp_iff, true_imp_iff, not_false_eq_true, not_true_eq_false, imp_self, forall_const]
  refine ⟨by decide, by decide, by decide, by decide, by decide, ?_⟩
  rw [show Int32.toNatClampNeg 0 = 0 from rfl, show Int32.toNatClampNeg 12 = 12 from rfl]
  refine w_low_out m hm hX t ht 12 0 (aup m 23 (va_cpy (m 22) (m 23) 0 0 12)) false rfl ⟨fun k k1 k2 k3 => aup_ne k2, fun b hb => ?_, fun b hb => ?_, fun b hb => ?_, ?_⟩
  · rw [aup_eq]
    rw [sb_cpy0 hb]
  · rw [aup_ne (by omega)]; rfl
  · rw [aup_ne (by omega), aup_ne (by omega)]; exact Or.inl ⟨rfl, rfl⟩
  · rw [aup_ne (by omega)]
    simp
end
section
/-! ===== the timeline: rounds ===== -/
theorem nI_m1 {d : Nat} (h : d < 2147483648) : (nI d = -1) = False := by
  refine eq_false (fun c => ?_)
  have := nI_pos (n := d) h
  rw [c] at this
  exact this (by decide)
theorem c_firstBroken (m : AM) (t : Nat) (ht : t < 4096) : AC 1 kX3_firstBroken [.inr 15, .inl (nI t)] m (fun z u => m = u ∧ ((z = some (-1) ∧ ∀ d, d < 12 → t.testBit d = true → nF m d ≤ (m 22 d).toInt) ∨ ∃ d, d < 12 ∧ z = some (nI d) ∧ t.testBit d = true ∧ (m 22 d).toInt < nF m d)) := by
  refine AC_of own_X3_firstBroken (ls := [some (.inr 15), some (.inl (nI t)), none]) (z := 1) (Nat.le_of_ble_eq_true rfl) rfl ?_
  have loop : ∀ (n j : Nat), j + n = 12 → (∀ d, d < j → t.testBit d = true → nF m d ≤ (m 22 d).toInt) → AW 1 kX3_firstBroken (fun z u => m = u ∧ ((z = some (-1) ∧ ∀ d, d < 12 → t.testBit d = true → nF m d ≤ (m 22 d).toInt) ∨ ∃ d, d < 12 ∧ z = some (nI d) ∧ t.testBit d = true ∧ (m 22 d).toInt < nF m d)) 2 [some (.inr 15), some (.inl (nI t)), some (.inl (nI j))] [] m := by
    intro n
    induction n with
    | zero =>
      intro j h hI
      obtain rfl : j = 12 := by omega
      refine st_X3_firstBroken_2 ?_; simp only [bX3_firstBroken_2, exP, stP, p1, p2, pr, pobj, parr, sh0, sh1, sh2, sh3, sh4, sh5, sh6, sh7, sh8, sh9, sh10, sh11, sh12, sh13, sh14, sh15, sh16, sh17, sh18, sh19, sh20, sh21, sh22, sh23, sh24, sh25, sh26, sh27, sh28, sh29, sh30, sh31, sh32, sh33, sh34, sh35, sh36, sh37, sh38, sh39, sh40, sh41, sh42, sh43, sh44, sh45, sh46, sh47, sh48, sh49, sh50, sh51, sh52, sh53, sh54, sh55, sh56, sh57, sh58, sh59, brP, brN, swP, amask, apush, List.getElem?_cons_zero, List.getElem?_cons_succ, List.set_cons_zero, List.set_cons_succ, List.take_succ_cons, List.take_zero, List.drop_succ_cons, List.drop_zero, List.reverse_cons, List.reverse_nil, List.nil_append, List.cons_append, List.length_cons, List.length_nil, true_and, and_true, Nat.zero_le, Nat.reduceLeDiff, Nat.reduceAdd, Nat.reduceEqDiff, false_imp_iff, true_imp_iff, not_false_eq_true, not_true_eq_false, imp_self, forall_const, lit_le (k := 12) (n := 12) (by omega) (by omega)]
      refine st_X3_firstBroken_39 ?_; simp only [bX3_firstBroken_39, exP, stP, p1, p2, pr, pobj, parr, sh0, sh1, sh2, sh3, sh4, sh5, sh6, sh7, sh8, sh9, sh10, sh11, sh12, sh13, sh14, sh15, sh16, sh17, sh18, sh19, sh20, sh21, sh22, sh23, sh24, sh25, sh26, sh27, sh28, sh29, sh30, sh31, sh32, sh33, sh34, sh35, sh36, sh37, sh38, sh39, sh40, sh41, sh42, sh43, sh44, sh45, sh46, sh47, sh48, sh49, sh50, sh51, sh52, sh53, sh54, sh55, sh56, sh57, sh58, sh59, brP, brN, swP, amask, apush, List.getElem?_cons_zero, List.getElem?_cons_succ, List.set_cons_zero, List.set_cons_succ, List.take_succ_cons, List.take_zero, List.drop_succ_cons, List.drop_zero, List.reverse_cons, List.reverse_nil, List.nil_append, List.cons_append, List.length_cons, List.length_nil, true_and, and_true, Nat.zero_le, Nat.reduceLeDiff, Nat.reduceAdd, Nat.reduceEqDiff, false_imp_iff, true_imp_iff, not_false_eq_true, not_true_eq_false, imp_self, forall_const]
      exact ⟨Or.inl trivial, Or.inl hI⟩
    | succ n ih =>
      intro j h hI
      have hj : j < 12 := by omega
      have vj := eq_true (vp_in_nI (show j < 12 by omega) (show 12 < 2 ^ 31 by omega))
      have cj := nI_clamp (show j < 2 ^ 31 by omega)
      have next : (t.testBit j = true → nF m j ≤ (m 22 j).toInt) → AW 1 kX3_firstBroken (fun z u => m = u ∧ ((z = some (-1) ∧ ∀ d, d < 12 → t.testBit d = true → nF m d ≤ (m 22 d).toInt) ∨ ∃ d, d < 12 ∧ z = some (nI d) ∧ t.testBit d = true ∧ (m 22 d).toInt < nF m d)) 33 [some (.inr 15), some (.inl (nI t)), some (.inl (nI j))] [] m := by
        intro hq
        refine st_X3_firstBroken_33 ?_; simp only [bX3_firstBroken_33, exP, stP, p1, p2, pr, pobj, parr, sh0, sh1, sh2, sh3, sh4, sh5, sh6, sh7, sh8, sh9, sh10, sh11, sh12, sh13, sh14, sh15, sh16, sh17, sh18, sh19, sh20, sh21, sh22, sh23, sh24, sh25, sh26, sh27, sh28, sh29, sh30, sh31, sh32, sh33, sh34, sh35, sh36, sh37, sh38, sh39, sh40, sh41, sh42, sh43, sh44, sh45, sh46, sh47, sh48, sh49, sh50, sh51, sh52, sh53, sh54, sh55, sh56, sh57, sh58, sh59, brP, brN, swP, amask, apush, List.getElem?_cons_zero, List.getElem?_cons_succ, List.set_cons_zero, List.set_cons_succ, List.take_succ_cons, List.take_zero, List.drop_succ_cons, List.drop_zero, List.reverse_cons, List.reverse_nil, List.nil_append, List.cons_append, List.length_cons, List.length_nil, true_and, and_true, Nat.zero_le, Nat.reduceLeDiff, Nat.reduceAdd, Nat.reduceEqDiff, false_imp_iff, true_imp_iff, not_false_eq_true, not_true_eq_false, imp_self, forall_const]
        rw [nI_1]
        refine ih (j + 1) (by omega) (fun d hd htd => ?_)
        by_cases q : d = j
        · subst q; exact hq htd
        · exact hI d (by omega) htd
      refine st_X3_firstBroken_2 ?_; simp only [bX3_firstBroken_2, exP, stP, p1, p2, pr, pobj, parr, sh0, sh1, sh2, sh3, sh4, sh5, sh6, sh7, sh8, sh9, sh10, sh11, sh12, sh13, sh14, sh15, sh16, sh17, sh18, sh19, sh20, sh21, sh22, sh23, sh24, sh25, sh26, sh27, sh28, sh29, sh30, sh31, sh32, sh33, sh34, sh35, sh36, sh37, sh38, sh39, sh40, sh41, sh42, sh43, sh44, sh45, sh46, sh47, sh48, sh49, sh50, sh51, sh52, sh53, sh54, sh55, sh56, sh57, sh58, sh59, brP, brN, swP, amask, apush, List.getElem?_cons_zero, List.getElem?_cons_succ, List.set_cons_zero, List.set_cons_succ, List.take_succ_cons, List.take_zero, List.drop_succ_cons, List.drop_zero, List.reverse_cons, List.reverse_nil, List.nil_append, List.cons_append, List.length_cons, List.length_nil, true_and, and_true, Nat.zero_le, Nat.reduceLeDiff, Nat.reduceAdd, Nat.reduceEqDiff, false_imp_iff, true_imp_iff, not_false_eq_true, not_true_eq_false, imp_self, forall_const, lit_nle (k := 12) (n := j) hj (by omega)]
      refine st_X3_firstBroken_8 ?_; simp only [bX3_firstBroken_8, exP, stP, p1, p2, pr, pobj, parr, sh0, sh1, sh2, sh3, sh4, sh5, sh6, sh7, sh8, sh9, sh10, sh11, sh12, sh13, sh14, sh15, sh16, sh17, sh18, sh19, sh20, sh21, sh22, sh23, sh24, sh25, sh26, sh27, sh28, sh29, sh30, sh31, sh32, sh33, sh34, sh35, sh36, sh37, sh38, sh39, sh40, sh41, sh42, sh43, sh44, sh45, sh46, sh47, sh48, sh49, sh50, sh51, sh52, sh53, sh54, sh55, sh56, sh57, sh58, sh59, brP, brN, swP, amask, apush, List.getElem?_cons_zero, List.getElem?_cons_succ, List.set_cons_zero, List.set_cons_succ, List.take_succ_cons, List.take_zero, List.drop_succ_cons, List.drop_zero, List.reverse_cons, List.reverse_nil, List.nil_append, List.cons_append, List.length_cons, List.length_nil, true_and, and_true, Nat.zero_le, Nat.reduceLeDiff, Nat.reduceAdd, Nat.reduceEqDiff, false_imp_iff, true_imp_iff, not_false_eq_true, not_true_eq_false, imp_self, forall_const]
      refine ⟨_, ⟨0, by decide, c_holds _ _ j (by omega)⟩, ?_⟩; rintro _ _ ⟨rfl, rfl⟩; simp only [exP, stP, p1, p2, pr, pobj, parr, sh0, sh1, sh2, sh3, sh4, sh5, sh6, sh7, sh8, sh9, sh10, sh11, sh12, sh13, sh14, sh15, sh16, sh17, sh18, sh19, sh20, sh21, sh22, sh23, sh24, sh25, sh26, sh27, sh28, sh29, sh30, sh31, sh32, sh33, sh34, sh35, sh36, sh37, sh38, sh39, sh40, sh41, sh42, sh43, sh44, sh45, sh46, sh47, sh48, sh49, sh50, sh51, sh52, sh53, sh54, sh55, sh56, sh57, sh58, sh59, brP, brN, swP, amask, apush, List.getElem?_cons_zero, List.getElem?_cons_succ, List.set_cons_zero, List.set_cons_succ, List.take_succ_cons, List.take_zero, List.drop_succ_cons, List.drop_zero, List.reverse_cons, List.reverse_nil, List.nil_append, List.cons_append, List.length_cons, List.length_nil, true_and, and_true, Nat.zero_le, Nat.reduceLeDiff, Nat.reduceAdd, Nat.reduceEqDiff, false_imp_iff, true_imp_iff, not_false_eq_true, not_true_eq_false, imp_self, forall_const, b01_0, bt_nI (show t < 4294967296 by omega)]
      refine ⟨fun c => next (fun q => by rw [c] at q; cases q), fun c => ?_⟩
      have c2 : t.testBit j = true := by simpa using c
      refine st_X3_firstBroken_16 ?_; simp only [bX3_firstBroken_16, exP, stP, p1, p2, pr, pobj, parr, sh0, sh1, sh2, sh3, sh4, sh5, sh6, sh7, sh8, sh9, sh10, sh11, sh12, sh13, sh14, sh15, sh16, sh17, sh18, sh19, sh20, sh21, sh22, sh23, sh24, sh25, sh26, sh27, sh28, sh29, sh30, sh31, sh32, sh33, sh34, sh35, sh36, sh37, sh38, sh39, sh40, sh41, sh42, sh43, sh44, sh45, sh46, sh47, sh48, sh49, sh50, sh51, sh52, sh53, sh54, sh55, sh56, sh57, sh58, sh59, brP, brN, swP, amask, apush, List.getElem?_cons_zero, List.getElem?_cons_succ, List.set_cons_zero, List.set_cons_succ, List.take_succ_cons, List.take_zero, List.drop_succ_cons, List.drop_zero, List.reverse_cons, List.reverse_nil, List.nil_append, List.cons_append, List.length_cons, List.length_nil, true_and, and_true, Nat.zero_le, Nat.reduceLeDiff, Nat.reduceAdd, Nat.reduceEqDiff, false_imp_iff, true_imp_iff, not_false_eq_true, not_true_eq_false, imp_self, forall_const, vj, cj]
      refine ⟨fun c3 => next (fun _ => ?_), fun c3 => ?_⟩
      · rw [Int32.le_iff_toInt_le] at c3; exact c3
      · rw [Int32.le_iff_toInt_le] at c3
        refine st_X3_firstBroken_31 ?_; simp only [bX3_firstBroken_31, exP, stP, p1, p2, pr, pobj, parr, sh0, sh1, sh2, sh3, sh4, sh5, sh6, sh7, sh8, sh9, sh10, sh11, sh12, sh13, sh14, sh15, sh16, sh17, sh18, sh19, sh20, sh21, sh22, sh23, sh24, sh25, sh26, sh27, sh28, sh29, sh30, sh31, sh32, sh33, sh34, sh35, sh36, sh37, sh38, sh39, sh40, sh41, sh42, sh43, sh44, sh45, sh46, sh47, sh48, sh49, sh50, sh51, sh52, sh53, sh54, sh55, sh56, sh57, sh58, sh59, brP, brN, swP, amask, apush, List.getElem?_cons_zero, List.getElem?_cons_succ, List.set_cons_zero, List.set_cons_succ, List.take_succ_cons, List.take_zero, List.drop_succ_cons, List.drop_zero, List.reverse_cons, List.reverse_nil, List.nil_append, List.cons_append, List.length_cons, List.length_nil, true_and, and_true, Nat.zero_le, Nat.reduceLeDiff, Nat.reduceAdd, Nat.reduceEqDiff, false_imp_iff, true_imp_iff, not_false_eq_true, not_true_eq_false, imp_self, forall_const]
        exact ⟨Or.inl trivial, Or.inr ⟨j, hj, rfl, c2, by unfold nF; omega⟩⟩
  refine st_X3_firstBroken_0 ?_; simp only [bX3_firstBroken_0, exP, stP, p1, p2, pr, pobj, parr, sh0, sh1, sh2, sh3, sh4, sh5, sh6, sh7, sh8, sh9, sh10, sh11, sh12, sh13, sh14, sh15, sh16, sh17, sh18, sh19, sh20, sh21, sh22, sh23, sh24, sh25, sh26, sh27, sh28, sh29, sh30, sh31, sh32, sh33, sh34, sh35, sh36, sh37, sh38, sh39, sh40, sh41, sh42, sh43, sh44, sh45, sh46, sh47, sh48, sh49, sh50, sh51, sh52, sh53, sh54, sh55, sh56, sh57, sh58, sh59, brP, brN, swP, amask, apush, List.getElem?_cons_zero, List.getElem?_cons_succ, List.set_cons_zero, List.set_cons_succ, List.take_succ_cons, List.take_zero, List.drop_succ_cons, List.drop_zero, List.reverse_cons, List.reverse_nil, List.nil_append, List.cons_append, List.length_cons, List.length_nil, true_and, and_true, Nat.zero_le, Nat.reduceLeDiff, Nat.reduceAdd, Nat.reduceEqDiff, false_imp_iff, true_imp_iff, not_false_eq_true, not_true_eq_false, imp_self, forall_const]
  exact loop 12 0 rfl (fun d hd => by omega)
theorem jmin_congr {cst : Nat → Nat → Option Int} {t : Nat} {X Y : Nat → Int} {b : Nat} (hXY : ∀ a, a < 12 → X a = Y a) (hb : b < 12) : ∀ n, n ≤ 12 → jmin cst t X b n = jmin cst t Y b n
  | 0, _ => hXY b hb
  | n + 1, h => by
    have ih := jmin_congr (cst := cst) (t := t) hXY hb n (by omega)
    unfold jmin
    rw [ih, hXY n (by omega)]
theorem jmin_out {cst : Nat → Nat → Option Int} {t : Nat} {X : Nat → Int} {b : Nat} (hb : t.testBit b = false) : ∀ n, jmin cst t X b n = X b
  | 0 => rfl
  | n + 1 => by
    rw [jmin_step_no (by rw [hb]; simp)]
    exact jmin_out hb n
/-- after k rounds -/
def RI (m : AM) (t : Nat) (u : AM) (k : Nat) : Prop :=
  (∀ j, j ≠ 15 → j ≠ 22 → j ≠ 23 → j ≠ 24 → u j = m j) ∧ (∀ j, j ≠ 10 → u 15 j = m 15 j) ∧ (∀ b, b < 12 → (u 22 b).toInt = lat (nL m) (nC m) t k b) ∧
  ∃ tm : Nat → Nat, ∀ b, b < 12 → t.testBit b = true → tm b ≤ k ∧ ((u 24 b = -1 ∧ (u 22 b).toInt = nL m b) ∨ ∃ a c, a < 12 ∧ t.testBit a = true ∧ nC m a b = some c ∧ u 24 b = nI a ∧ (u 22 a).toInt + c ≤ (u 22 b).toInt ∧ ((u 22 a).toInt + c = (u 22 b).toInt → tm a < tm b))
theorem RI.eC {m : AM} {t : Nat} {u : AM} {k : Nat} (h : RI m t u k) : nC u = nC m := by
  funext a b
  have e1 := h.1 19 (by omega) (by omega) (by omega) (by omega)
  have e2 := h.1 18 (by omega) (by omega) (by omega) (by omega)
  have e3 := h.2.1 9 (by omega)
  unfold nC
  rw [e1, e2, e3]
theorem RI.tw {m : AM} {t : Nat} {u : AM} {k : Nat} (h : RI m t u k) (hm : TW m) : TW u := by
  have e1 := h.1 16 (by omega) (by omega) (by omega) (by omega)
  have e2 := h.1 17 (by omega) (by omega) (by omega) (by omega)
  have e3 := h.2.1 9 (by omega)
  unfold TW nF nL at *
  rw [e1, e2, e3]
  exact hm
theorem RI.put {m : AM} {t : Nat} {u : AM} {k : Nat} (x : Int32) (h : RI m t u k) : RI m t (aup u 15 (upd (u 15) 10 x)) k := by
  obtain ⟨h1, h2, h3, h4⟩ := h
  refine ⟨fun j j1 j2 j3 j4 => by rw [aup_ne j1]; exact h1 j j1 j2 j3 j4, fun j hj => by rw [aup_eq, upd_ne hj]; exact h2 j hj, fun b hb => by rw [aup_ne (by omega)]; exact h3 b hb, ?_⟩
  rw [aup_ne (show 24 ≠ 15 by omega), aup_ne (show 22 ≠ 15 by omega)]
  exact h4
theorem RI.range {m : AM} {t : Nat} {u : AM} {k : Nat} (h : RI m t u k) (hm : TW m) : ∀ b, b < 12 → 0 ≤ (u 22 b).toInt ∧ (u 22 b).toInt ≤ 3000 := by
  intro b hb
  rw [h.2.2.1 b hb]
  exact lat_range (TW_c hm) (fun b hb => ⟨(hm.1 b hb).2.2.1, (hm.1 b hb).2.2.2⟩) k b hb
theorem RI.next {m : AM} {t : Nat} {u u' : AM} {k : Nat} {ch : Bool} (h : RI m t u k) (hI : LI u t u' ch (fun _ => 12)) : RI m t u' (k + 1) ∧ (ch = true ↔ ∃ b, b < 12 ∧ lat (nL m) (nC m) t (k + 1) b < lat (nL m) (nC m) t k b) := by
  have hn := h.eC
  obtain ⟨h1, h2, h3, tm, h4⟩ := h
  obtain ⟨i1, i2, i3, i4, i5⟩ := hI
  rw [hn] at i3 i4
  have e22 : ∀ b, b < 12 → (u' 22 b).toInt = lat (nL m) (nC m) t (k + 1) b := by
    intro b hb
    rw [i3 b hb]
    exact jmin_congr h3 hb 12 (Nat.le_refl 12)
  have le22 : ∀ b, b < 12 → (u' 22 b).toInt ≤ (u 22 b).toInt := by
    intro b hb
    rw [e22 b hb, h3 b hb]
    exact lat_le t k b
  refine ⟨⟨fun j j1 j2 j3 j4 => by rw [i1 j j2 j3 j4]; exact h1 j j1 j2 j3 j4, fun j hj => by rw [i1 15 (by omega) (by omega) (by omega)]; exact h2 j hj, e22, ?_⟩, ?_⟩
  · refine ⟨fun b => if (u' 22 b).toInt < (u 22 b).toInt then k + 1 else tm b, fun b hb htb => ?_⟩
    obtain ⟨t1, t2⟩ := h4 b hb htb
    refine ⟨by dsimp only; split <;> omega, ?_⟩
    rcases i4 b hb with ⟨e1, e2⟩ | ⟨a, c, ha, hta, -, hc, e2, e3, e4⟩
    · rcases t2 with ⟨q1, q2⟩ | ⟨a, c, ha, hta, hc, q1, q2, q3⟩
      · exact Or.inl ⟨by rw [e2]; exact q1, by rw [e1]; exact q2⟩
      · have := le22 a ha
        refine Or.inr ⟨a, c, ha, hta, hc, by rw [e2]; exact q1, by omega, fun e => ?_⟩
        dsimp only
        rw [if_neg (show ¬ (u' 22 b).toInt < (u 22 b).toInt by omega), if_neg (by omega)]
        exact q3 (by omega)
    · have := le22 a ha
      refine Or.inr ⟨a, c, ha, hta, hc, e2, by omega, fun e => ?_⟩
      dsimp only
      rw [if_pos e4, if_neg (by omega)]
      have := (h4 a ha hta).1
      omega
  · rw [i5]
    constructor
    · rintro ⟨b, hb, hlt⟩
      exact ⟨b, hb, by rw [← e22 b hb, ← h3 b hb]; exact hlt⟩
    · rintro ⟨b, hb, hlt⟩
      exact ⟨b, hb, by rw [e22 b hb, h3 b hb]; exact hlt⟩
def RQ (m : AM) (t : Nat) : APost := fun z u =>
  (∃ k, k ≤ 11 ∧ z = some (nI k) ∧ fst (nF m) (nL m) (nC m) t k ∧ RI m t u k ∧ ∃ d, d < 12 ∧ u 15 10 = nI d ∧ t.testBit d = true ∧ (u 22 d).toInt < nF m d) ∨
  (∃ k, z = some (-1) ∧ RI m t u (k + 1) ∧ ¬ brk (nF m) (nL m) (nC m) t k ∧ ∀ b, b < 12 → lat (nL m) (nC m) t (k + 1) b = lat (nL m) (nC m) t k b)
theorem c_roundsToBreak (m : AM) (hm : TW m) (t : Nat) (ht : t < 4096) : AC 2 kX3_roundsToBreak [.inr 15, .inl (nI t)] m (RQ m t) := by
  refine AC_of own_X3_roundsToBreak (ls := [some (.inr 15), some (.inl (nI t)), none]) (z := 1) (Nat.le_of_ble_eq_true rfl) rfl ?_
  have hc0 := TW_c hm
  have loop2 : ∀ (n k : Nat) (u : AM), k + n = 11 → RI m t u k → (∀ j, j < k → ¬ brk (nF m) (nL m) (nC m) t j) → AW 2 kX3_roundsToBreak (RQ m t) 35 [some (.inr 15), some (.inl (nI t)), some (.inl (nI k))] [] u := by
    intro n
    induction n with
    | zero =>
      intro k u hk hI hb
      obtain rfl : k = 11 := by omega
      refine st_X3_roundsToBreak_35 ?_; simp only [bX3_roundsToBreak_35, exP, stP, p1, p2, pr, pobj, parr, sh0, sh1, sh2, sh3, sh4, sh5, sh6, sh7, sh8, sh9, sh10, sh11, sh12, sh13, sh14, sh15, sh16, sh17, sh18, sh19, sh20, sh21, sh22, sh23, sh24, sh25, sh26, sh27, sh28, sh29, sh30, sh31, sh32, sh33, sh34, sh35, sh36, sh37, sh38, sh39, sh40, sh41, sh42, sh43, sh44, sh45, sh46, sh47, sh48, sh49, sh50, sh51, sh52, sh53, sh54, sh55, sh56, sh57, sh58, sh59, brP, brN, swP, amask, apush, List.getElem?_cons_zero, List.getElem?_cons_succ, List.set_cons_zero, List.set_cons_succ, List.take_succ_cons, List.take_zero, List.drop_succ_cons, List.drop_zero, List.reverse_cons, List.reverse_nil, List.nil_append, List.cons_append, List.length_cons, List.length_nil, true_and, and_true, Nat.zero_le, Nat.reduceLeDiff, Nat.reduceAdd, Nat.reduceEqDiff, false_imp_iff, true_imp_iff, not_false_eq_true, not_true_eq_false, imp_self, forall_const, lit_nlt (k := 12) (n := 11) (by omega) (by omega)]
      refine st_X3_roundsToBreak_41 ?_; simp only [bX3_roundsToBreak_41, exP, stP, p1, p2, pr, pobj, parr, sh0, sh1, sh2, sh3, sh4, sh5, sh6, sh7, sh8, sh9, sh10, sh11, sh12, sh13, sh14, sh15, sh16, sh17, sh18, sh19, sh20, sh21, sh22, sh23, sh24, sh25, sh26, sh27, sh28, sh29, sh30, sh31, sh32, sh33, sh34, sh35, sh36, sh37, sh38, sh39, sh40, sh41, sh42, sh43, sh44, sh45, sh46, sh47, sh48, sh49, sh50, sh51, sh52, sh53, sh54, sh55, sh56, sh57, sh58, sh59, brP, brN, swP, amask, apush, List.getElem?_cons_zero, List.getElem?_cons_succ, List.set_cons_zero, List.set_cons_succ, List.take_succ_cons, List.take_zero, List.drop_succ_cons, List.drop_zero, List.reverse_cons, List.reverse_nil, List.nil_append, List.cons_append, List.length_cons, List.length_nil, true_and, and_true, Nat.zero_le, Nat.reduceLeDiff, Nat.reduceAdd, Nat.reduceEqDiff, false_imp_iff, true_imp_iff, not_false_eq_true, not_true_eq_false, imp_self, forall_const]
      refine ⟨_, ⟨1, by decide, c_firstBroken u t ht⟩, ?_⟩
      rintro z u' ⟨rfl, hz⟩
      have e16 := hI.1 16 (by omega) (by omega) (by omega) (by omega)
      rcases hz with ⟨rfl, hz⟩ | ⟨d, hd, rfl, htd, hlt⟩
      · simp only [exP, stP, p1, p2, pr, pobj, parr, sh0, sh1, sh2, sh3, sh4, sh5, sh6, sh7, sh8, sh9, sh10, sh11, sh12, sh13, sh14, sh15, sh16, sh17, sh18, sh19, sh20, sh21, sh22, sh23, sh24, sh25, sh26, sh27, sh28, sh29, sh30, sh31, sh32, sh33, sh34, sh35, sh36, sh37, sh38, sh39, sh40, sh41, sh42, sh43, sh44, sh45, sh46, sh47, sh48, sh49, sh50, sh51, sh52, sh53, sh54, sh55, sh56, sh57, sh58, sh59, brP, brN, swP, amask, apush, List.getElem?_cons_zero, List.getElem?_cons_succ, List.set_cons_zero, List.set_cons_succ, List.take_succ_cons, List.take_zero, List.drop_succ_cons, List.drop_zero, List.reverse_cons, List.reverse_nil, List.nil_append, List.cons_append, List.length_cons, List.length_nil, true_and, and_true, Nat.zero_le, Nat.reduceLeDiff, Nat.reduceAdd, Nat.reduceEqDiff, false_imp_iff, true_imp_iff, not_false_eq_true, not_true_eq_false, imp_self, forall_const, aup_eq, upd_eq, true_or]
        refine st_X3_roundsToBreak_60 ?_; simp only [bX3_roundsToBreak_60, exP, stP, p1, p2, pr, pobj, parr, sh0, sh1, sh2, sh3, sh4, sh5, sh6, sh7, sh8, sh9, sh10, sh11, sh12, sh13, sh14, sh15, sh16, sh17, sh18, sh19, sh20, sh21, sh22, sh23, sh24, sh25, sh26, sh27, sh28, sh29, sh30, sh31, sh32, sh33, sh34, sh35, sh36, sh37, sh38, sh39, sh40, sh41, sh42, sh43, sh44, sh45, sh46, sh47, sh48, sh49, sh50, sh51, sh52, sh53, sh54, sh55, sh56, sh57, sh58, sh59, brP, brN, swP, amask, apush, List.getElem?_cons_zero, List.getElem?_cons_succ, List.set_cons_zero, List.set_cons_succ, List.take_succ_cons, List.take_zero, List.drop_succ_cons, List.drop_zero, List.reverse_cons, List.reverse_nil, List.nil_append, List.cons_append, List.length_cons, List.length_nil, true_and, and_true, Nat.zero_le, Nat.reduceLeDiff, Nat.reduceAdd, Nat.reduceEqDiff, false_imp_iff, true_imp_iff, not_false_eq_true, not_true_eq_false, imp_self, forall_const]
        have hI2 := hI.put (-1)
        refine ⟨_, ⟨1, by decide, c_lowerOnce _ (hI2.tw hm) (hI2.range hm) t ht⟩, ?_⟩
        rintro z u' ⟨ch, rfl, hL⟩
        obtain ⟨hI3, hch⟩ := hI2.next hL
        have hno : ¬ ∃ b, b < 12 ∧ lat (nL m) (nC m) t (11 + 1) b < lat (nL m) (nC m) t 11 b := by
          rintro ⟨b, hb, hlt⟩
          cases hq : t.testBit b with
          | true =>
            have h9 : lat (nL m) (nC m) t (11 + 1) b = lat (nL m) (nC m) t 11 b := lat_stable (L := nL m) (fun a b c h => (hc0 a b c h).1) hb hq
            omega
          | false =>
            have e : lat (nL m) (nC m) t (11 + 1) b = lat (nL m) (nC m) t 11 b := jmin_out hq 12
            omega
        have hcf : ch = false := by
          cases ch with
          | false => rfl
          | true => exact absurd (hch.mp rfl) hno
        subst hcf
        simp only [exP, stP, p1, p2, pr, pobj, parr, sh0, sh1, sh2, sh3, sh4, sh5, sh6, sh7, sh8, sh9, sh10, sh11, sh12, sh13, sh14, sh15, sh16, sh17, sh18, sh19, sh20, sh21, sh22, sh23, sh24, sh25, sh26, sh27, sh28, sh29, sh30, sh31, sh32, sh33, sh34, sh35, sh36, sh37, sh38, sh39, sh40, sh41, sh42, sh43, sh44, sh45, sh46, sh47, sh48, sh49, sh50, sh51, sh52, sh53, sh54, sh55, sh56, sh57, sh58, sh59, brP, brN, swP, amask, apush, List.getElem?_cons_zero, List.getElem?_cons_succ, List.set_cons_zero, List.set_cons_succ, List.take_succ_cons, List.take_zero, List.drop_succ_cons, List.drop_zero, List.reverse_cons, List.reverse_nil, List.nil_append, List.cons_append, List.length_cons, List.length_nil, true_and, and_true, Nat.zero_le, Nat.reduceLeDiff, Nat.reduceAdd, Nat.reduceEqDiff, false_imp_iff, true_imp_iff, not_false_eq_true, not_true_eq_false, imp_self, forall_const, b01_0]
        refine st_X3_roundsToBreak_68 ?_; simp only [bX3_roundsToBreak_68, exP, stP, p1, p2, pr, pobj, parr, sh0, sh1, sh2, sh3, sh4, sh5, sh6, sh7, sh8, sh9, sh10, sh11, sh12, sh13, sh14, sh15, sh16, sh17, sh18, sh19, sh20, sh21, sh22, sh23, sh24, sh25, sh26, sh27, sh28, sh29, sh30, sh31, sh32, sh33, sh34, sh35, sh36, sh37, sh38, sh39, sh40, sh41, sh42, sh43, sh44, sh45, sh46, sh47, sh48, sh49, sh50, sh51, sh52, sh53, sh54, sh55, sh56, sh57, sh58, sh59, brP, brN, swP, amask, apush, List.getElem?_cons_zero, List.getElem?_cons_succ, List.set_cons_zero, List.set_cons_succ, List.take_succ_cons, List.take_zero, List.drop_succ_cons, List.drop_zero, List.reverse_cons, List.reverse_nil, List.nil_append, List.cons_append, List.length_cons, List.length_nil, true_and, and_true, Nat.zero_le, Nat.reduceLeDiff, Nat.reduceAdd, Nat.reduceEqDiff, false_imp_iff, true_imp_iff, not_false_eq_true, not_true_eq_false, imp_self, forall_const]
        refine ⟨Or.inl trivial, Or.inr ⟨11, rfl, hI3, ?_, fun b hb => ?_⟩⟩
        · rintro ⟨b, hb, htb, hlt⟩
          have h5 := hz b hb htb
          have h6 := hI.2.2.1 b hb
          unfold nF at h5 hlt
          rw [e16] at h5
          omega
        · have h5 := lat_le (L := nL m) (cst := nC m) t 11 b
          rcases Int.lt_or_le (lat (nL m) (nC m) t (11 + 1) b) (lat (nL m) (nC m) t 11 b) with q | q
          · exact absurd ⟨b, hb, q⟩ hno
          · omega
      · simp only [exP, stP, p1, p2, pr, pobj, parr, sh0, sh1, sh2, sh3, sh4, sh5, sh6, sh7, sh8, sh9, sh10, sh11, sh12, sh13, sh14, sh15, sh16, sh17, sh18, sh19, sh20, sh21, sh22, sh23, sh24, sh25, sh26, sh27, sh28, sh29, sh30, sh31, sh32, sh33, sh34, sh35, sh36, sh37, sh38, sh39, sh40, sh41, sh42, sh43, sh44, sh45, sh46, sh47, sh48, sh49, sh50, sh51, sh52, sh53, sh54, sh55, sh56, sh57, sh58, sh59, brP, brN, swP, amask, apush, List.getElem?_cons_zero, List.getElem?_cons_succ, List.set_cons_zero, List.set_cons_succ, List.take_succ_cons, List.take_zero, List.drop_succ_cons, List.drop_zero, List.reverse_cons, List.reverse_nil, List.nil_append, List.cons_append, List.length_cons, List.length_nil, true_and, and_true, Nat.zero_le, Nat.reduceLeDiff, Nat.reduceAdd, Nat.reduceEqDiff, false_imp_iff, true_imp_iff, not_false_eq_true, not_true_eq_false, imp_self, forall_const, aup_eq, upd_eq, true_or, nI_m1 (show d < 2147483648 by omega)]
        refine st_X3_roundsToBreak_58 ?_; simp only [bX3_roundsToBreak_58, exP, stP, p1, p2, pr, pobj, parr, sh0, sh1, sh2, sh3, sh4, sh5, sh6, sh7, sh8, sh9, sh10, sh11, sh12, sh13, sh14, sh15, sh16, sh17, sh18, sh19, sh20, sh21, sh22, sh23, sh24, sh25, sh26, sh27, sh28, sh29, sh30, sh31, sh32, sh33, sh34, sh35, sh36, sh37, sh38, sh39, sh40, sh41, sh42, sh43, sh44, sh45, sh46, sh47, sh48, sh49, sh50, sh51, sh52, sh53, sh54, sh55, sh56, sh57, sh58, sh59, brP, brN, swP, amask, apush, List.getElem?_cons_zero, List.getElem?_cons_succ, List.set_cons_zero, List.set_cons_succ, List.take_succ_cons, List.take_zero, List.drop_succ_cons, List.drop_zero, List.reverse_cons, List.reverse_nil, List.nil_append, List.cons_append, List.length_cons, List.length_nil, true_and, and_true, Nat.zero_le, Nat.reduceLeDiff, Nat.reduceAdd, Nat.reduceEqDiff, false_imp_iff, true_imp_iff, not_false_eq_true, not_true_eq_false, imp_self, forall_const]
        have hlt2 : (u 22 d).toInt < nF m d := by unfold nF at hlt ⊢; rw [e16] at hlt; exact hlt
        refine ⟨Or.inl trivial, Or.inl ⟨11, Nat.le_refl _, rfl, ⟨⟨d, hd, htd, ?_⟩, hb⟩, hI.put _, d, hd, ?_, htd, ?_⟩⟩
        · rw [← hI.2.2.1 d hd]; exact hlt2
        · rw [aup_eq, upd_eq]
        · rw [aup_ne (by omega)]; exact hlt2
    | succ n ih =>
      intro k u hk hI hb
      refine st_X3_roundsToBreak_35 ?_; simp only [bX3_roundsToBreak_35, exP, stP, p1, p2, pr, pobj, parr, sh0, sh1, sh2, sh3, sh4, sh5, sh6, sh7, sh8, sh9, sh10, sh11, sh12, sh13, sh14, sh15, sh16, sh17, sh18, sh19, sh20, sh21, sh22, sh23, sh24, sh25, sh26, sh27, sh28, sh29, sh30, sh31, sh32, sh33, sh34, sh35, sh36, sh37, sh38, sh39, sh40, sh41, sh42, sh43, sh44, sh45, sh46, sh47, sh48, sh49, sh50, sh51, sh52, sh53, sh54, sh55, sh56, sh57, sh58, sh59, brP, brN, swP, amask, apush, List.getElem?_cons_zero, List.getElem?_cons_succ, List.set_cons_zero, List.set_cons_succ, List.take_succ_cons, List.take_zero, List.drop_succ_cons, List.drop_zero, List.reverse_cons, List.reverse_nil, List.nil_append, List.cons_append, List.length_cons, List.length_nil, true_and, and_true, Nat.zero_le, Nat.reduceLeDiff, Nat.reduceAdd, Nat.reduceEqDiff, false_imp_iff, true_imp_iff, not_false_eq_true, not_true_eq_false, imp_self, forall_const, lit_nlt (k := 12) (n := k) (by omega) (by omega)]
      refine st_X3_roundsToBreak_41 ?_; simp only [bX3_roundsToBreak_41, exP, stP, p1, p2, pr, pobj, parr, sh0, sh1, sh2, sh3, sh4, sh5, sh6, sh7, sh8, sh9, sh10, sh11, sh12, sh13, sh14, sh15, sh16, sh17, sh18, sh19, sh20, sh21, sh22, sh23, sh24, sh25, sh26, sh27, sh28, sh29, sh30, sh31, sh32, sh33, sh34, sh35, sh36, sh37, sh38, sh39, sh40, sh41, sh42, sh43, sh44, sh45, sh46, sh47, sh48, sh49, sh50, sh51, sh52, sh53, sh54, sh55, sh56, sh57, sh58, sh59, brP, brN, swP, amask, apush, List.getElem?_cons_zero, List.getElem?_cons_succ, List.set_cons_zero, List.set_cons_succ, List.take_succ_cons, List.take_zero, List.drop_succ_cons, List.drop_zero, List.reverse_cons, List.reverse_nil, List.nil_append, List.cons_append, List.length_cons, List.length_nil, true_and, and_true, Nat.zero_le, Nat.reduceLeDiff, Nat.reduceAdd, Nat.reduceEqDiff, false_imp_iff, true_imp_iff, not_false_eq_true, not_true_eq_false, imp_self, forall_const]
      refine ⟨_, ⟨1, by decide, c_firstBroken u t ht⟩, ?_⟩
      rintro z u' ⟨rfl, hz⟩
      have e16 := hI.1 16 (by omega) (by omega) (by omega) (by omega)
      rcases hz with ⟨rfl, hz⟩ | ⟨d, hd, rfl, htd, hlt⟩
      · simp only [exP, stP, p1, p2, pr, pobj, parr, sh0, sh1, sh2, sh3, sh4, sh5, sh6, sh7, sh8, sh9, sh10, sh11, sh12, sh13, sh14, sh15, sh16, sh17, sh18, sh19, sh20, sh21, sh22, sh23, sh24, sh25, sh26, sh27, sh28, sh29, sh30, sh31, sh32, sh33, sh34, sh35, sh36, sh37, sh38, sh39, sh40, sh41, sh42, sh43, sh44, sh45, sh46, sh47, sh48, sh49, sh50, sh51, sh52, sh53, sh54, sh55, sh56, sh57, sh58, sh59, brP, brN, swP, amask, apush, List.getElem?_cons_zero, List.getElem?_cons_succ, List.set_cons_zero, List.set_cons_succ, List.take_succ_cons, List.take_zero, List.drop_succ_cons, List.drop_zero, List.reverse_cons, List.reverse_nil, List.nil_append, List.cons_append, List.length_cons, List.length_nil, true_and, and_true, Nat.zero_le, Nat.reduceLeDiff, Nat.reduceAdd, Nat.reduceEqDiff, false_imp_iff, true_imp_iff, not_false_eq_true, not_true_eq_false, imp_self, forall_const, aup_eq, upd_eq, true_or]
        refine st_X3_roundsToBreak_60 ?_; simp only [bX3_roundsToBreak_60, exP, stP, p1, p2, pr, pobj, parr, sh0, sh1, sh2, sh3, sh4, sh5, sh6, sh7, sh8, sh9, sh10, sh11, sh12, sh13, sh14, sh15, sh16, sh17, sh18, sh19, sh20, sh21, sh22, sh23, sh24, sh25, sh26, sh27, sh28, sh29, sh30, sh31, sh32, sh33, sh34, sh35, sh36, sh37, sh38, sh39, sh40, sh41, sh42, sh43, sh44, sh45, sh46, sh47, sh48, sh49, sh50, sh51, sh52, sh53, sh54, sh55, sh56, sh57, sh58, sh59, brP, brN, swP, amask, apush, List.getElem?_cons_zero, List.getElem?_cons_succ, List.set_cons_zero, List.set_cons_succ, List.take_succ_cons, List.take_zero, List.drop_succ_cons, List.drop_zero, List.reverse_cons, List.reverse_nil, List.nil_append, List.cons_append, List.length_cons, List.length_nil, true_and, and_true, Nat.zero_le, Nat.reduceLeDiff, Nat.reduceAdd, Nat.reduceEqDiff, false_imp_iff, true_imp_iff, not_false_eq_true, not_true_eq_false, imp_self, forall_const]
        have hI2 := hI.put (-1)
        have hnb : ¬ brk (nF m) (nL m) (nC m) t k := by
          rintro ⟨b, hb, htb, hlt⟩
          have h5 := hz b hb htb
          have h6 := hI.2.2.1 b hb
          unfold nF at h5 hlt
          rw [e16] at h5
          omega
        refine ⟨_, ⟨1, by decide, c_lowerOnce _ (hI2.tw hm) (hI2.range hm) t ht⟩, ?_⟩
        rintro z u' ⟨ch, rfl, hL⟩
        obtain ⟨hI3, hch⟩ := hI2.next hL
        simp only [exP, stP, p1, p2, pr, pobj, parr, sh0, sh1, sh2, sh3, sh4, sh5, sh6, sh7, sh8, sh9, sh10, sh11, sh12, sh13, sh14, sh15, sh16, sh17, sh18, sh19, sh20, sh21, sh22, sh23, sh24, sh25, sh26, sh27, sh28, sh29, sh30, sh31, sh32, sh33, sh34, sh35, sh36, sh37, sh38, sh39, sh40, sh41, sh42, sh43, sh44, sh45, sh46, sh47, sh48, sh49, sh50, sh51, sh52, sh53, sh54, sh55, sh56, sh57, sh58, sh59, brP, brN, swP, amask, apush, List.getElem?_cons_zero, List.getElem?_cons_succ, List.set_cons_zero, List.set_cons_succ, List.take_succ_cons, List.take_zero, List.drop_succ_cons, List.drop_zero, List.reverse_cons, List.reverse_nil, List.nil_append, List.cons_append, List.length_cons, List.length_nil, true_and, and_true, Nat.zero_le, Nat.reduceLeDiff, Nat.reduceAdd, Nat.reduceEqDiff, false_imp_iff, true_imp_iff, not_false_eq_true, not_true_eq_false, imp_self, forall_const, b01_0]
        refine ⟨fun c => ?_, fun c => ?_⟩
        · refine st_X3_roundsToBreak_70 ?_; simp only [bX3_roundsToBreak_70, exP, stP, p1, p2, pr, pobj, parr, sh0, sh1, sh2, sh3, sh4, sh5, sh6, sh7, sh8, sh9, sh10, sh11, sh12, sh13, sh14, sh15, sh16, sh17, sh18, sh19, sh20, sh21, sh22, sh23, sh24, sh25, sh26, sh27, sh28, sh29, sh30, sh31, sh32, sh33, sh34, sh35, sh36, sh37, sh38, sh39, sh40, sh41, sh42, sh43, sh44, sh45, sh46, sh47, sh48, sh49, sh50, sh51, sh52, sh53, sh54, sh55, sh56, sh57, sh58, sh59, brP, brN, swP, amask, apush, List.getElem?_cons_zero, List.getElem?_cons_succ, List.set_cons_zero, List.set_cons_succ, List.take_succ_cons, List.take_zero, List.drop_succ_cons, List.drop_zero, List.reverse_cons, List.reverse_nil, List.nil_append, List.cons_append, List.length_cons, List.length_nil, true_and, and_true, Nat.zero_le, Nat.reduceLeDiff, Nat.reduceAdd, Nat.reduceEqDiff, false_imp_iff, true_imp_iff, not_false_eq_true, not_true_eq_false, imp_self, forall_const]
          rw [nI_1]
          refine ih (k + 1) u' (by omega) hI3 (fun j hj => ?_)
          by_cases q : j = k
          · subst q; exact hnb
          · exact hb j (by omega)
        · refine st_X3_roundsToBreak_68 ?_; simp only [bX3_roundsToBreak_68, exP, stP, p1, p2, pr, pobj, parr, sh0, sh1, sh2, sh3, sh4, sh5, sh6, sh7, sh8, sh9, sh10, sh11, sh12, sh13, sh14, sh15, sh16, sh17, sh18, sh19, sh20, sh21, sh22, sh23, sh24, sh25, sh26, sh27, sh28, sh29, sh30, sh31, sh32, sh33, sh34, sh35, sh36, sh37, sh38, sh39, sh40, sh41, sh42, sh43, sh44, sh45, sh46, sh47, sh48, sh49, sh50, sh51, sh52, sh53, sh54, sh55, sh56, sh57, sh58, sh59, brP, brN, swP, amask, apush, List.getElem?_cons_zero, List.getElem?_cons_succ, List.set_cons_zero, List.set_cons_succ, List.take_succ_cons, List.take_zero, List.drop_succ_cons, List.drop_zero, List.reverse_cons, List.reverse_nil, List.nil_append, List.cons_append, List.length_cons, List.length_nil, true_and, and_true, Nat.zero_le, Nat.reduceLeDiff, Nat.reduceAdd, Nat.reduceEqDiff, false_imp_iff, true_imp_iff, not_false_eq_true, not_true_eq_false, imp_self, forall_const]
          refine ⟨Or.inl trivial, Or.inr ⟨k, rfl, hI3, hnb, fun b hb => ?_⟩⟩
          have h5 := lat_le (L := nL m) (cst := nC m) t k b
          rcases Int.lt_or_le (lat (nL m) (nC m) t (k + 1) b) (lat (nL m) (nC m) t k b) with q | q
          · rw [hch.mpr ⟨b, hb, q⟩] at c; cases c
          · omega
      · simp only [exP, stP, p1, p2, pr, pobj, parr, sh0, sh1, sh2, sh3, sh4, sh5, sh6, sh7, sh8, sh9, sh10, sh11, sh12, sh13, sh14, sh15, sh16, sh17, sh18, sh19, sh20, sh21, sh22, sh23, sh24, sh25, sh26, sh27, sh28, sh29, sh30, sh31, sh32, sh33, sh34, sh35, sh36, sh37, sh38, sh39, sh40, sh41, sh42, sh43, sh44, sh45, sh46, sh47, sh48, sh49, sh50, sh51, sh52, sh53, sh54, sh55, sh56, sh57, sh58, sh59, brP, brN, swP, amask, apush, List.getElem?_cons_zero, List.getElem?_cons_succ, List.set_cons_zero, List.set_cons_succ, List.take_succ_cons, List.take_zero, List.drop_succ_cons, List.drop_zero, List.reverse_cons, List.reverse_nil, List.nil_append, List.cons_append, List.length_cons, List.length_nil, true_and, and_true, Nat.zero_le, Nat.reduceLeDiff, Nat.reduceAdd, Nat.reduceEqDiff, false_imp_iff, true_imp_iff, not_false_eq_true, not_true_eq_false, imp_self, forall_const, aup_eq, upd_eq, true_or, nI_m1 (show d < 2147483648 by omega)]
        refine st_X3_roundsToBreak_58 ?_; simp only [bX3_roundsToBreak_58, exP, stP, p1, p2, pr, pobj, parr, sh0, sh1, sh2, sh3, sh4, sh5, sh6, sh7, sh8, sh9, sh10, sh11, sh12, sh13, sh14, sh15, sh16, sh17, sh18, sh19, sh20, sh21, sh22, sh23, sh24, sh25, sh26, sh27, sh28, sh29, sh30, sh31, sh32, sh33, sh34, sh35, sh36, sh37, sh38, sh39, sh40, sh41, sh42, sh43, sh44, sh45, sh46, sh47, sh48, sh49, sh50, sh51, sh52, sh53, sh54, sh55, sh56, sh57, sh58, sh59, brP, brN, swP, amask, apush, List.getElem?_cons_zero, List.getElem?_cons_succ, List.set_cons_zero, List.set_cons_succ, List.take_succ_cons, List.take_zero, List.drop_succ_cons, List.drop_zero, List.reverse_cons, List.reverse_nil, List.nil_append, List.cons_append, List.length_cons, List.length_nil, true_and, and_true, Nat.zero_le, Nat.reduceLeDiff, Nat.reduceAdd, Nat.reduceEqDiff, false_imp_iff, true_imp_iff, not_false_eq_true, not_true_eq_false, imp_self, forall_const]
        have hlt2 : (u 22 d).toInt < nF m d := by unfold nF at hlt ⊢; rw [e16] at hlt; exact hlt
        refine ⟨Or.inl trivial, Or.inl ⟨k, by omega, rfl, ⟨⟨d, hd, htd, ?_⟩, hb⟩, hI.put _, d, hd, ?_, htd, ?_⟩⟩
        · rw [← hI.2.2.1 d hd]; exact hlt2
        · rw [aup_eq, upd_eq]
        · rw [aup_ne (by omega)]; exact hlt2
  have loop1 : ∀ (n j : Nat) (u : AM), j + n = 12 → (∀ i, i ≠ 22 → i ≠ 24 → u i = m i) → (∀ b, b < j → u 22 b = m 17 b ∧ u 24 b = -1) → AW 2 kX3_roundsToBreak (RQ m t) 2 [some (.inr 15), some (.inl (nI t)), some (.inl (nI j))] [] u := by
    intro n
    induction n with
    | zero =>
      intro j u hj h1 h2
      obtain rfl : j = 12 := by omega
      refine st_X3_roundsToBreak_2 ?_; simp only [bX3_roundsToBreak_2, exP, stP, p1, p2, pr, pobj, parr, sh0, sh1, sh2, sh3, sh4, sh5, sh6, sh7, sh8, sh9, sh10, sh11, sh12, sh13, sh14, sh15, sh16, sh17, sh18, sh19, sh20, sh21, sh22, sh23, sh24, sh25, sh26, sh27, sh28, sh29, sh30, sh31, sh32, sh33, sh34, sh35, sh36, sh37, sh38, sh39, sh40, sh41, sh42, sh43, sh44, sh45, sh46, sh47, sh48, sh49, sh50, sh51, sh52, sh53, sh54, sh55, sh56, sh57, sh58, sh59, brP, brN, swP, amask, apush, List.getElem?_cons_zero, List.getElem?_cons_succ, List.set_cons_zero, List.set_cons_succ, List.take_succ_cons, List.take_zero, List.drop_succ_cons, List.drop_zero, List.reverse_cons, List.reverse_nil, List.nil_append, List.cons_append, List.length_cons, List.length_nil, true_and, and_true, Nat.zero_le, Nat.reduceLeDiff, Nat.reduceAdd, Nat.reduceEqDiff, false_imp_iff, true_imp_iff, not_false_eq_true, not_true_eq_false, imp_self, forall_const, lit_le (k := 12) (n := 12) (by omega) (by omega)]
      refine st_X3_roundsToBreak_33 ?_; simp only [bX3_roundsToBreak_33, exP, stP, p1, p2, pr, pobj, parr, sh0, sh1, sh2, sh3, sh4, sh5, sh6, sh7, sh8, sh9, sh10, sh11, sh12, sh13, sh14, sh15, sh16, sh17, sh18, sh19, sh20, sh21, sh22, sh23, sh24, sh25, sh26, sh27, sh28, sh29, sh30, sh31, sh32, sh33, sh34, sh35, sh36, sh37, sh38, sh39, sh40, sh41, sh42, sh43, sh44, sh45, sh46, sh47, sh48, sh49, sh50, sh51, sh52, sh53, sh54, sh55, sh56, sh57, sh58, sh59, brP, brN, swP, amask, apush, List.getElem?_cons_zero, List.getElem?_cons_succ, List.set_cons_zero, List.set_cons_succ, List.take_succ_cons, List.take_zero, List.drop_succ_cons, List.drop_zero, List.reverse_cons, List.reverse_nil, List.nil_append, List.cons_append, List.length_cons, List.length_nil, true_and, and_true, Nat.zero_le, Nat.reduceLeDiff, Nat.reduceAdd, Nat.reduceEqDiff, false_imp_iff, true_imp_iff, not_false_eq_true, not_true_eq_false, imp_self, forall_const]
      refine loop2 11 0 u rfl ⟨fun j _ j2 _ j4 => h1 j j2 j4, fun j _ => by rw [h1 15 (by omega) (by omega)], fun b hb => by rw [(h2 b hb).1]; rfl, fun _ => 0, fun b hb _ => ⟨Nat.le_refl 0, Or.inl ⟨(h2 b hb).2, by rw [(h2 b hb).1]; rfl⟩⟩⟩ (fun j hj => by omega)
    | succ n ih =>
      intro j u hj h1 h2
      have vj := eq_true (vp_in_nI (show j < 12 by omega) (show 12 < 2 ^ 31 by omega))
      have cj := nI_clamp (show j < 2 ^ 31 by omega)
      refine st_X3_roundsToBreak_2 ?_; simp only [bX3_roundsToBreak_2, exP, stP, p1, p2, pr, pobj, parr, sh0, sh1, sh2, sh3, sh4, sh5, sh6, sh7, sh8, sh9, sh10, sh11, sh12, sh13, sh14, sh15, sh16, sh17, sh18, sh19, sh20, sh21, sh22, sh23, sh24, sh25, sh26, sh27, sh28, sh29, sh30, sh31, sh32, sh33, sh34, sh35, sh36, sh37, sh38, sh39, sh40, sh41, sh42, sh43, sh44, sh45, sh46, sh47, sh48, sh49, sh50, sh51, sh52, sh53, sh54, sh55, sh56, sh57, sh58, sh59, brP, brN, swP, amask, apush, List.getElem?_cons_zero, List.getElem?_cons_succ, List.set_cons_zero, List.set_cons_succ, List.take_succ_cons, List.take_zero, List.drop_succ_cons, List.drop_zero, List.reverse_cons, List.reverse_nil, List.nil_append, List.cons_append, List.length_cons, List.length_nil, true_and, and_true, Nat.zero_le, Nat.reduceLeDiff, Nat.reduceAdd, Nat.reduceEqDiff, false_imp_iff, true_imp_iff, not_false_eq_true, not_true_eq_false, imp_self, forall_const, lit_nle (k := 12) (n := j) (by omega) (by omega)]
      refine st_X3_roundsToBreak_8 ?_; simp only [bX3_roundsToBreak_8, exP, stP, p1, p2, pr, pobj, parr, sh0, sh1, sh2, sh3, sh4, sh5, sh6, sh7, sh8, sh9, sh10, sh11, sh12, sh13, sh14, sh15, sh16, sh17, sh18, sh19, sh20, sh21, sh22, sh23, sh24, sh25, sh26, sh27, sh28, sh29, sh30, sh31, sh32, sh33, sh34, sh35, sh36, sh37, sh38, sh39, sh40, sh41, sh42, sh43, sh44, sh45, sh46, sh47, sh48, sh49, sh50, sh51, sh52, sh53, sh54, sh55, sh56, sh57, sh58, sh59, brP, brN, swP, amask, apush, List.getElem?_cons_zero, List.getElem?_cons_succ, List.set_cons_zero, List.set_cons_succ, List.take_succ_cons, List.take_zero, List.drop_succ_cons, List.drop_zero, List.reverse_cons, List.reverse_nil, List.nil_append, List.cons_append, List.length_cons, List.length_nil, true_and, and_true, Nat.zero_le, Nat.reduceLeDiff, Nat.reduceAdd, Nat.reduceEqDiff, false_imp_iff, true_imp_iff, not_false_eq_true, not_true_eq_false, imp_self, forall_const, vj, cj]
      rw [nI_1]
      refine ih (j + 1) _ (by omega) (fun i i1 i2 => by rw [aup_ne i2, aup_ne i1]; exact h1 i i1 i2) (fun b hb => ?_)
      rw [aup_ne (show 22 ≠ 24 by omega), aup_eq, aup_eq, aup_ne (show 24 ≠ 22 by omega)]
      by_cases q : b = j
      · subst q
        rw [upd_eq, upd_eq, h1 17 (by omega) (by omega)]
        exact ⟨rfl, rfl⟩
      · rw [upd_ne q, upd_ne q]
        exact h2 b (by omega)
  refine st_X3_roundsToBreak_0 ?_; simp only [bX3_roundsToBreak_0, exP, stP, p1, p2, pr, pobj, parr, sh0, sh1, sh2, sh3, sh4, sh5, sh6, sh7, sh8, sh9, sh10, sh11, sh12, sh13, sh14, sh15, sh16, sh17, sh18, sh19, sh20, sh21, sh22, sh23, sh24, sh25, sh26, sh27, sh28, sh29, sh30, sh31, sh32, sh33, sh34, sh35, sh36, sh37, sh38, sh39, sh40, sh41, sh42, sh43, sh44, sh45, sh46, sh47, sh48, sh49, sh50, sh51, sh52, sh53, sh54, sh55, sh56, sh57, sh58, sh59, brP, brN, swP, amask, apush, List.getElem?_cons_zero, List.getElem?_cons_succ, List.set_cons_zero, List.set_cons_succ, List.take_succ_cons, List.take_zero, List.drop_succ_cons, List.drop_zero, List.reverse_cons, List.reverse_nil, List.nil_append, List.cons_append, List.length_cons, List.length_nil, true_and, and_true, Nat.zero_le, Nat.reduceLeDiff, Nat.reduceAdd, Nat.reduceEqDiff, false_imp_iff, true_imp_iff, not_false_eq_true, not_true_eq_false, imp_self, forall_const]
  exact loop1 12 0 m rfl (fun _ _ _ => rfl) (fun b hb => by omega)
end
section
/-! ===== the timeline: conflicts and the quarrel ===== -/
theorem low12_lt {t : Nat} (h : low12 t) : t < 4096 := by
  have h2 : t < 2 ^ 12 := Nat.lt_pow_two_of_testBit t (fun i hi => by
    cases q : t.testBit i with
    | false => rfl
    | true => have := h i q; omega)
  simpa using h2
theorem lt_low12 {t : Nat} (h : t < 4096) : low12 t := fun i hi => by
  rcases Nat.lt_or_ge i 12 with q | q
  · exact q
  · have h2 : 2 ^ 12 ≤ 2 ^ i := Nat.pow_le_pow_right (by omega) q
    rw [Nat.testBit_lt_two_pow (by omega)] at hi
    cases hi
theorem insB_low {t d : Nat} (h : low12 t) (hd : d < 12) : low12 (insB t d) := fun i hi => by
  rw [insB_bit] at hi
  simp at hi
  rcases hi with hi | rfl
  · exact h i hi
  · exact hd
theorem or_shl {f d : Nat} (hf : f < 4096) (hd : d < 12) : nI f ||| ((1 : Int32) <<< (nI d &&& 31)) = nI (insB f d) := by
  have h2 := low12_lt (insB_low (lt_low12 hf) hd)
  apply b_ext
  intro i hi
  rw [b_or, bt_shl1 (by omega) hi, bt_nI (by omega), bt_nI (by omega), insB_bit]
theorem and_not {f d : Nat} (hf : f < 4096) (hd : d < 12) : nI f &&& (((1 : Int32) <<< (nI d &&& 31)) ^^^ (-1)) = nI (dif f (2 ^ d)) := by
  have h2 : dif f (2 ^ d) < 4096 := low12_lt (fun i hi => by
    rw [dif_bit] at hi
    simp at hi
    exact lt_low12 hf i hi.1)
  apply b_ext
  intro i hi
  rw [b_and, bt_not _ hi, bt_shl1 (by omega) hi, bt_nI (by omega), bt_nI (by omega), dif_bit, Nat.testBit_two_pow]
  by_cases q : d = i
  · subst q; simp
  · have q2 : ¬ i = d := fun r => q r.symm
    simp [q, q2]
/-- what stays behind calls of the timeline's questions -/
def RM (m u : AM) : Prop := (∀ j, j ≠ 15 → j ≠ 22 → j ≠ 23 → j ≠ 24 → u j = m j) ∧ ∀ j, j ≠ 10 → u 15 j = m 15 j
theorem RM.rf (m : AM) : RM m m := ⟨fun _ _ _ _ _ => rfl, fun _ _ => rfl⟩
theorem RM.tr {m u v : AM} (h1 : RM m u) (h2 : RM u v) : RM m v := ⟨fun j a b c d => (h2.1 j a b c d).trans (h1.1 j a b c d), fun j a => (h2.2 j a).trans (h1.2 j a)⟩
theorem RI.rm {m : AM} {t : Nat} {u : AM} {k : Nat} (h : RI m t u k) : RM m u := ⟨h.1, h.2.1⟩
theorem RM.eF {m u : AM} (h : RM m u) : nF u = nF m := by funext d; unfold nF; rw [h.1 16 (by omega) (by omega) (by omega) (by omega)]
theorem RM.eL {m u : AM} (h : RM m u) : nL u = nL m := by funext d; unfold nL; rw [h.1 17 (by omega) (by omega) (by omega) (by omega)]
theorem RM.eC {m u : AM} (h : RM m u) : nC u = nC m := by
  funext a b
  have e1 := h.1 19 (by omega) (by omega) (by omega) (by omega)
  have e2 := h.1 18 (by omega) (by omega) (by omega) (by omega)
  have e3 := h.2 9 (by omega)
  unfold nC
  rw [e1, e2, e3]
theorem RM.tw {m u : AM} (h : RM m u) (hm : TW m) : TW u := by
  unfold TW
  rw [h.eF, h.eL, h.2 9 (by omega)]
  exact hm
def CQ (m : AM) (t : Nat) : APost := fun z u => RM m u ∧ ((z = some 0 ∧ agr (nF m) (nL m) (nC m) t) ∨ ∃ C, z = some (nI C) ∧ low12 C ∧ C ≠ 0 ∧ sub C t ∧ ¬ agr (nF m) (nL m) (nC m) C)
theorem w_conflict (m : AM) (t : Nat) (ht : t < 4096) (u : AM) (k : Nat) (hI : RI m t u k) (tm : Nat → Nat)
    (htm : ∀ b, b < 12 → t.testBit b = true → ((u 24 b = -1 ∧ (u 22 b).toInt = nL m b) ∨ ∃ a c, a < 12 ∧ t.testBit a = true ∧ nC m a b = some c ∧ 0 ≤ c ∧ u 24 b = nI a ∧ (u 22 a).toInt + c ≤ (u 22 b).toInt ∧ ((u 22 a).toInt + c = (u 22 b).toInt → tm a < tm b))) :
    ∀ (n f d : Nat), sz f + n = 12 → low12 f → sub f t → d < 12 → t.testBit d = true → (∀ x, f.testBit x = true → (u 22 d).toInt < (u 22 x).toInt ∨ ((u 22 d).toInt = (u 22 x).toInt ∧ tm d < tm x)) →
    (∀ C, sub (insB f d) C → sub C t → (∀ y, sol (nF m) (nL m) (nC m) C y → y d ≤ (u 22 d).toInt) → ¬ agr (nF m) (nL m) (nC m) C) →
    AW 3 kX3_conflictIn (CQ m t) 21 [some (.inr 15), none, some (.inl (nI f)), some (.inl (nI d)), some (.inl (nI (sz f)))] [] u := by
  intro n
  induction n with
  | zero =>
    intro f d hn hf hft hd htd hpot H
    exfalso
    have hdf : f.testBit d = false := by
      cases q : f.testBit d with
      | false => rfl
      | true => have := hpot d q; omega
    have h1 := pcN_ins (s := f) (t := insB f d) (d := d) 12 hd hdf (fun i _ => insB_bit f d i)
    have h2 := pcN_le (insB f d) 12
    unfold sz at hn
    omega
  | succ n ih =>
    intro f d hn hf hft hd htd hpot H
    have vd := eq_true (vp_in_nI (show d < 12 by omega) (show 12 < 2 ^ 31 by omega))
    have cd := nI_clamp (show d < 2 ^ 31 by omega)
    have hf2 := low12_lt hf
    have hdf : f.testBit d = false := by
      cases q : f.testBit d with
      | false => rfl
      | true => have := hpot d q; omega
    have hsz : sz (insB f d) = sz f + 1 := pcN_ins (s := f) (t := insB f d) (d := d) 12 hd hdf (fun i _ => insB_bit f d i)
    have hlow := insB_low hf hd
    have hsub : sub (insB f d) t := fun i hi => by
      rw [insB_bit] at hi
      simp at hi
      rcases hi with hi | rfl
      · exact hft i hi
      · exact htd
    have hne : insB f d ≠ 0 := fun q => by
      have := insB_bit f d d
      rw [q] at this
      simp at this
    refine st_X3_conflictIn_21 ?_; simp only [bX3_conflictIn_21, exP, stP, p1, p2, pr, pobj, parr, sh0, sh1, sh2, sh3, sh4, sh5, sh6, sh7, sh8, sh9, sh10, sh11, sh12, sh13, sh14, sh15, sh16, sh17, sh18, sh19, sh20, sh21, sh22, sh23, sh24, sh25, sh26, sh27, sh28, sh29, sh30, sh31, sh32, sh33, sh34, sh35, sh36, sh37, sh38, sh39, sh40, sh41, sh42, sh43, sh44, sh45, sh46, sh47, sh48, sh49, sh50, sh51, sh52, sh53, sh54, sh55, sh56, sh57, sh58, sh59, brP, brN, swP, amask, apush, List.getElem?_cons_zero, List.getElem?_cons_succ, List.set_cons_zero, List.set_cons_succ, List.take_succ_cons, List.take_zero, List.drop_succ_cons, List.drop_zero, List.reverse_cons, List.reverse_nil, List.nil_append, List.cons_append, List.length_cons, List.length_nil, true_and, and_true, Nat.zero_le, Nat.reduceLeDiff, Nat.reduceAdd, Nat.reduceEqDiff, false_imp_iff, true_imp_iff, not_false_eq_true, not_true_eq_false, imp_self, forall_const, lit_nle (k := 12) (n := sz f) (by omega) (by omega)]
    refine st_X3_conflictIn_28 ?_; simp only [bX3_conflictIn_28, exP, stP, p1, p2, pr, pobj, parr, sh0, sh1, sh2, sh3, sh4, sh5, sh6, sh7, sh8, sh9, sh10, sh11, sh12, sh13, sh14, sh15, sh16, sh17, sh18, sh19, sh20, sh21, sh22, sh23, sh24, sh25, sh26, sh27, sh28, sh29, sh30, sh31, sh32, sh33, sh34, sh35, sh36, sh37, sh38, sh39, sh40, sh41, sh42, sh43, sh44, sh45, sh46, sh47, sh48, sh49, sh50, sh51, sh52, sh53, sh54, sh55, sh56, sh57, sh58, sh59, brP, brN, swP, amask, apush, List.getElem?_cons_zero, List.getElem?_cons_succ, List.set_cons_zero, List.set_cons_succ, List.take_succ_cons, List.take_zero, List.drop_succ_cons, List.drop_zero, List.reverse_cons, List.reverse_nil, List.nil_append, List.cons_append, List.length_cons, List.length_nil, true_and, and_true, Nat.zero_le, Nat.reduceLeDiff, Nat.reduceAdd, Nat.reduceEqDiff, false_imp_iff, true_imp_iff, not_false_eq_true, not_true_eq_false, imp_self, forall_const, nI_lt0 (show d < 2147483648 by omega)]
    refine st_X3_conflictIn_32 ?_; simp only [bX3_conflictIn_32, exP, stP, p1, p2, pr, pobj, parr, sh0, sh1, sh2, sh3, sh4, sh5, sh6, sh7, sh8, sh9, sh10, sh11, sh12, sh13, sh14, sh15, sh16, sh17, sh18, sh19, sh20, sh21, sh22, sh23, sh24, sh25, sh26, sh27, sh28, sh29, sh30, sh31, sh32, sh33, sh34, sh35, sh36, sh37, sh38, sh39, sh40, sh41, sh42, sh43, sh44, sh45, sh46, sh47, sh48, sh49, sh50, sh51, sh52, sh53, sh54, sh55, sh56, sh57, sh58, sh59, brP, brN, swP, amask, apush, List.getElem?_cons_zero, List.getElem?_cons_succ, List.set_cons_zero, List.set_cons_succ, List.take_succ_cons, List.take_zero, List.drop_succ_cons, List.drop_zero, List.reverse_cons, List.reverse_nil, List.nil_append, List.cons_append, List.length_cons, List.length_nil, true_and, and_true, Nat.zero_le, Nat.reduceLeDiff, Nat.reduceAdd, Nat.reduceEqDiff, false_imp_iff, true_imp_iff, not_false_eq_true, not_true_eq_false, imp_self, forall_const, lit_nle (k := 12) (n := d) hd (by omega)]
    refine st_X3_conflictIn_38 ?_; simp only [bX3_conflictIn_38, exP, stP, p1, p2, pr, pobj, parr, sh0, sh1, sh2, sh3, sh4, sh5, sh6, sh7, sh8, sh9, sh10, sh11, sh12, sh13, sh14, sh15, sh16, sh17, sh18, sh19, sh20, sh21, sh22, sh23, sh24, sh25, sh26, sh27, sh28, sh29, sh30, sh31, sh32, sh33, sh34, sh35, sh36, sh37, sh38, sh39, sh40, sh41, sh42, sh43, sh44, sh45, sh46, sh47, sh48, sh49, sh50, sh51, sh52, sh53, sh54, sh55, sh56, sh57, sh58, sh59, brP, brN, swP, amask, apush, List.getElem?_cons_zero, List.getElem?_cons_succ, List.set_cons_zero, List.set_cons_succ, List.take_succ_cons, List.take_zero, List.drop_succ_cons, List.drop_zero, List.reverse_cons, List.reverse_nil, List.nil_append, List.cons_append, List.length_cons, List.length_nil, true_and, and_true, Nat.zero_le, Nat.reduceLeDiff, Nat.reduceAdd, Nat.reduceEqDiff, false_imp_iff, true_imp_iff, not_false_eq_true, not_true_eq_false, imp_self, forall_const, vd, cd, or_shl hf2 hd]
    rw [nI_1]
    rcases htm d hd htd with ⟨e1, e2⟩ | ⟨a, c, ha, hta, hc, hc0, e1, e2, e3⟩
    · rw [e1]
      have fin : AW 3 kX3_conflictIn (CQ m t) 57 [none, none, some (.inl (nI (insB f d))), none, none] [] u := by
        refine st_X3_conflictIn_57 ?_; simp only [bX3_conflictIn_57, exP, stP, p1, p2, pr, pobj, parr, sh0, sh1, sh2, sh3, sh4, sh5, sh6, sh7, sh8, sh9, sh10, sh11, sh12, sh13, sh14, sh15, sh16, sh17, sh18, sh19, sh20, sh21, sh22, sh23, sh24, sh25, sh26, sh27, sh28, sh29, sh30, sh31, sh32, sh33, sh34, sh35, sh36, sh37, sh38, sh39, sh40, sh41, sh42, sh43, sh44, sh45, sh46, sh47, sh48, sh49, sh50, sh51, sh52, sh53, sh54, sh55, sh56, sh57, sh58, sh59, brP, brN, swP, amask, apush, List.getElem?_cons_zero, List.getElem?_cons_succ, List.set_cons_zero, List.set_cons_succ, List.take_succ_cons, List.take_zero, List.drop_succ_cons, List.drop_zero, List.reverse_cons, List.reverse_nil, List.nil_append, List.cons_append, List.length_cons, List.length_nil, true_and, and_true, Nat.zero_le, Nat.reduceLeDiff, Nat.reduceAdd, Nat.reduceEqDiff, false_imp_iff, true_imp_iff, not_false_eq_true, not_true_eq_false, imp_self, forall_const]
        refine ⟨Or.inl trivial, hI.rm, Or.inr ⟨insB f d, rfl, hlow, hne, hsub, H _ (fun i hi => hi) hsub (fun y hy => ?_)⟩⟩
        rw [e2]
        exact (hy.1 d hd (by rw [insB_bit]; simp)).2
      refine st_X3_conflictIn_21 ?_; simp only [bX3_conflictIn_21, exP, stP, p1, p2, pr, pobj, parr, sh0, sh1, sh2, sh3, sh4, sh5, sh6, sh7, sh8, sh9, sh10, sh11, sh12, sh13, sh14, sh15, sh16, sh17, sh18, sh19, sh20, sh21, sh22, sh23, sh24, sh25, sh26, sh27, sh28, sh29, sh30, sh31, sh32, sh33, sh34, sh35, sh36, sh37, sh38, sh39, sh40, sh41, sh42, sh43, sh44, sh45, sh46, sh47, sh48, sh49, sh50, sh51, sh52, sh53, sh54, sh55, sh56, sh57, sh58, sh59, brP, brN, swP, amask, apush, List.getElem?_cons_zero, List.getElem?_cons_succ, List.set_cons_zero, List.set_cons_succ, List.take_succ_cons, List.take_zero, List.drop_succ_cons, List.drop_zero, List.reverse_cons, List.reverse_nil, List.nil_append, List.cons_append, List.length_cons, List.length_nil, true_and, and_true, Nat.zero_le, Nat.reduceLeDiff, Nat.reduceAdd, Nat.reduceEqDiff, false_imp_iff, true_imp_iff, not_false_eq_true, not_true_eq_false, imp_self, forall_const]
      refine ⟨fun _ => fin, fun _ => ?_⟩
      refine st_X3_conflictIn_28 ?_; simp only [bX3_conflictIn_28, exP, stP, p1, p2, pr, pobj, parr, sh0, sh1, sh2, sh3, sh4, sh5, sh6, sh7, sh8, sh9, sh10, sh11, sh12, sh13, sh14, sh15, sh16, sh17, sh18, sh19, sh20, sh21, sh22, sh23, sh24, sh25, sh26, sh27, sh28, sh29, sh30, sh31, sh32, sh33, sh34, sh35, sh36, sh37, sh38, sh39, sh40, sh41, sh42, sh43, sh44, sh45, sh46, sh47, sh48, sh49, sh50, sh51, sh52, sh53, sh54, sh55, sh56, sh57, sh58, sh59, brP, brN, swP, amask, apush, List.getElem?_cons_zero, List.getElem?_cons_succ, List.set_cons_zero, List.set_cons_succ, List.take_succ_cons, List.take_zero, List.drop_succ_cons, List.drop_zero, List.reverse_cons, List.reverse_nil, List.nil_append, List.cons_append, List.length_cons, List.length_nil, true_and, and_true, Nat.zero_le, Nat.reduceLeDiff, Nat.reduceAdd, Nat.reduceEqDiff, false_imp_iff, true_imp_iff, not_false_eq_true, not_true_eq_false, imp_self, forall_const]
      refine ⟨fun _ => fin, fun q => absurd (by decide) q⟩
    · rw [e1, ← hsz]
      refine ih (insB f d) a (by omega) hlow hsub ha hta (fun x hx => ?_) (fun C hC hCt hy => ?_)
      · have key : (u 22 a).toInt < (u 22 d).toInt ∨ ((u 22 a).toInt = (u 22 d).toInt ∧ tm a < tm d) := by
          rcases Int.lt_or_le (u 22 a).toInt (u 22 d).toInt with q | q
          · exact Or.inl q
          · exact Or.inr ⟨by omega, e3 (by omega)⟩
        rw [insB_bit] at hx
        simp at hx
        rcases hx with hx | rfl
        · have := hpot x hx
          omega
        · exact key
      · refine H C (fun i hi => hC i (by rw [insB_bit, hi]; simp)) hCt (fun y hys => ?_)
        have h1 := hy y hys
        have hda : C.testBit d = true := hC d (by rw [insB_bit, insB_bit]; simp)
        have haa : C.testBit a = true := hC a (by rw [insB_bit]; simp)
        have h2 := hys.2 a d c ha hd haa hda hc
        omega
theorem c_conflictIn (m : AM) (hm : TW m) (t : Nat) (ht : t < 4096) : AC 3 kX3_conflictIn [.inr 15, .inl (nI t)] m (CQ m t) := by
  refine AC_of own_X3_conflictIn (ls := [some (.inr 15), some (.inl (nI t)), none, none, none]) (z := 3) (Nat.le_of_ble_eq_true rfl) rfl ?_
  have hc0 := TW_c hm
  refine st_X3_conflictIn_0 ?_; simp only [bX3_conflictIn_0, exP, stP, p1, p2, pr, pobj, parr, sh0, sh1, sh2, sh3, sh4, sh5, sh6, sh7, sh8, sh9, sh10, sh11, sh12, sh13, sh14, sh15, sh16, sh17, sh18, sh19, sh20, sh21, sh22, sh23, sh24, sh25, sh26, sh27, sh28, sh29, sh30, sh31, sh32, sh33, sh34, sh35, sh36, sh37, sh38, sh39, sh40, sh41, sh42, sh43, sh44, sh45, sh46, sh47, sh48, sh49, sh50, sh51, sh52, sh53, sh54, sh55, sh56, sh57, sh58, sh59, brP, brN, swP, amask, apush, List.getElem?_cons_zero, List.getElem?_cons_succ, List.set_cons_zero, List.set_cons_succ, List.take_succ_cons, List.take_zero, List.drop_succ_cons, List.drop_zero, List.reverse_cons, List.reverse_nil, List.nil_append, List.cons_append, List.length_cons, List.length_nil, true_and, and_true, Nat.zero_le, Nat.reduceLeDiff, Nat.reduceAdd, Nat.reduceEqDiff, false_imp_iff, true_imp_iff, not_false_eq_true, not_true_eq_false, imp_self, forall_const]
  refine ⟨_, ⟨2, by decide, c_roundsToBreak m hm t ht⟩, ?_⟩
  rintro z u (⟨k, hk, rfl, hfst, hI, d, hd, e15, htd, hlt⟩ | ⟨k, rfl, hI, hnb, hst⟩)
  · simp only [exP, stP, p1, p2, pr, pobj, parr, sh0, sh1, sh2, sh3, sh4, sh5, sh6, sh7, sh8, sh9, sh10, sh11, sh12, sh13, sh14, sh15, sh16, sh17, sh18, sh19, sh20, sh21, sh22, sh23, sh24, sh25, sh26, sh27, sh28, sh29, sh30, sh31, sh32, sh33, sh34, sh35, sh36, sh37, sh38, sh39, sh40, sh41, sh42, sh43, sh44, sh45, sh46, sh47, sh48, sh49, sh50, sh51, sh52, sh53, sh54, sh55, sh56, sh57, sh58, sh59, brP, brN, swP, amask, apush, List.getElem?_cons_zero, List.getElem?_cons_succ, List.set_cons_zero, List.set_cons_succ, List.take_succ_cons, List.take_zero, List.drop_succ_cons, List.drop_zero, List.reverse_cons, List.reverse_nil, List.nil_append, List.cons_append, List.length_cons, List.length_nil, true_and, and_true, Nat.zero_le, Nat.reduceLeDiff, Nat.reduceAdd, Nat.reduceEqDiff, false_imp_iff, true_imp_iff, not_false_eq_true, not_true_eq_false, imp_self, forall_const, nI_m1 (show k < 2147483648 by omega)]
    refine st_X3_conflictIn_11 ?_; simp only [bX3_conflictIn_11, exP, stP, p1, p2, pr, pobj, parr, sh0, sh1, sh2, sh3, sh4, sh5, sh6, sh7, sh8, sh9, sh10, sh11, sh12, sh13, sh14, sh15, sh16, sh17, sh18, sh19, sh20, sh21, sh22, sh23, sh24, sh25, sh26, sh27, sh28, sh29, sh30, sh31, sh32, sh33, sh34, sh35, sh36, sh37, sh38, sh39, sh40, sh41, sh42, sh43, sh44, sh45, sh46, sh47, sh48, sh49, sh50, sh51, sh52, sh53, sh54, sh55, sh56, sh57, sh58, sh59, brP, brN, swP, amask, apush, List.getElem?_cons_zero, List.getElem?_cons_succ, List.set_cons_zero, List.set_cons_succ, List.take_succ_cons, List.take_zero, List.drop_succ_cons, List.drop_zero, List.reverse_cons, List.reverse_nil, List.nil_append, List.cons_append, List.length_cons, List.length_nil, true_and, and_true, Nat.zero_le, Nat.reduceLeDiff, Nat.reduceAdd, Nat.reduceEqDiff, false_imp_iff, true_imp_iff, not_false_eq_true, not_true_eq_false, imp_self, forall_const]
    rw [e15]
    obtain ⟨-, -, -, tm, htm⟩ := id hI
    have hz : (0 : Int32) = nI 0 := rfl
    have hz2 : (0 : Int32) = nI (sz 0) := rfl
    have := w_conflict m t ht u k hI tm (fun b hb htb => by
      rcases (htm b hb htb).2 with q | ⟨a, c, h1, h2, h3, h4⟩
      · exact Or.inl q
      · exact Or.inr ⟨a, c, h1, h2, h3, (hc0 a b c h3).1, h4⟩) 12 0 d rfl (fun i hi => by simp at hi) (fun i hi => by simp at hi) hd htd (fun x hx => by simp at hx) (fun C hC hCt hy hag => by
        obtain ⟨y, hys⟩ := hag
        have h1 := hy y hys
        have h2 := (hys.1 d hd (hC d (by rw [insB_bit]; simp))).1
        omega)
    exact this
  · simp only [exP, stP, p1, p2, pr, pobj, parr, sh0, sh1, sh2, sh3, sh4, sh5, sh6, sh7, sh8, sh9, sh10, sh11, sh12, sh13, sh14, sh15, sh16, sh17, sh18, sh19, sh20, sh21, sh22, sh23, sh24, sh25, sh26, sh27, sh28, sh29, sh30, sh31, sh32, sh33, sh34, sh35, sh36, sh37, sh38, sh39, sh40, sh41, sh42, sh43, sh44, sh45, sh46, sh47, sh48, sh49, sh50, sh51, sh52, sh53, sh54, sh55, sh56, sh57, sh58, sh59, brP, brN, swP, amask, apush, List.getElem?_cons_zero, List.getElem?_cons_succ, List.set_cons_zero, List.set_cons_succ, List.take_succ_cons, List.take_zero, List.drop_succ_cons, List.drop_zero, List.reverse_cons, List.reverse_nil, List.nil_append, List.cons_append, List.length_cons, List.length_nil, true_and, and_true, Nat.zero_le, Nat.reduceLeDiff, Nat.reduceAdd, Nat.reduceEqDiff, false_imp_iff, true_imp_iff, not_false_eq_true, not_true_eq_false, imp_self, forall_const]
    refine st_X3_conflictIn_9 ?_; simp only [bX3_conflictIn_9, exP, stP, p1, p2, pr, pobj, parr, sh0, sh1, sh2, sh3, sh4, sh5, sh6, sh7, sh8, sh9, sh10, sh11, sh12, sh13, sh14, sh15, sh16, sh17, sh18, sh19, sh20, sh21, sh22, sh23, sh24, sh25, sh26, sh27, sh28, sh29, sh30, sh31, sh32, sh33, sh34, sh35, sh36, sh37, sh38, sh39, sh40, sh41, sh42, sh43, sh44, sh45, sh46, sh47, sh48, sh49, sh50, sh51, sh52, sh53, sh54, sh55, sh56, sh57, sh58, sh59, brP, brN, swP, amask, apush, List.getElem?_cons_zero, List.getElem?_cons_succ, List.set_cons_zero, List.set_cons_succ, List.take_succ_cons, List.take_zero, List.drop_succ_cons, List.drop_zero, List.reverse_cons, List.reverse_nil, List.nil_append, List.cons_append, List.length_cons, List.length_nil, true_and, and_true, Nat.zero_le, Nat.reduceLeDiff, Nat.reduceAdd, Nat.reduceEqDiff, false_imp_iff, true_imp_iff, not_false_eq_true, not_true_eq_false, imp_self, forall_const]
    refine ⟨Or.inl trivial, hI.rm, Or.inl ⟨rfl, ?_⟩⟩
    exact ⟨_, agr_of_stable (fun b hb _ => hst b hb) hnb⟩
/-- the quarrel exists -/
theorem isQ_ex {F L : Nat → Int} {cst : Nat → Nat → Option Int} {A : Nat} (h : ¬ agr F L cst A) : ∃ q, isQ F L cst A q := by
  obtain ⟨k, ⟨t0, h1, h2, h3⟩, hmin⟩ := pk_least (fun k => ∃ t, sub t A ∧ ¬ agr F L cst t ∧ sz t = k) ⟨_, A, fun i hi => hi, h, rfl⟩
  obtain ⟨q, ⟨g1, g2, g3⟩, gmin⟩ := pk_least (fun t => sub t A ∧ ¬ agr F L cst t ∧ sz t = k) ⟨t0, h1, h2, h3⟩
  refine ⟨q, g1, g2, fun t ht hn => ?_⟩
  rcases Nat.lt_trichotomy (sz t) k with r | r | r
  · exact absurd ⟨t, ht, hn, rfl⟩ (hmin _ r)
  · right
    refine ⟨by omega, ?_⟩
    rcases Nat.lt_or_ge t q with s | s
    · exact absurd ⟨ht, hn, r⟩ (gmin t s)
    · exact s
  · left; omega
def QQ (m : AM) (A : Nat) : APost := fun z u => RM m u ∧ ((z = some 0 ∧ agr (nF m) (nL m) (nC m) A) ∨ ∃ q, z = some (nI q) ∧ isQ (nF m) (nL m) (nC m) A q)
theorem c_quarrelIn (m : AM) (hm : TW m) (A : Nat) (hA : A < 4096) : AC 3 kX3_quarrelIn [.inr 15, .inl (nI A)] m (QQ m A) := by
  refine AC_of own_X3_quarrelIn (ls := [some (.inr 15), some (.inl (nI A)), none, none, none, none]) (z := 4) (Nat.le_of_ble_eq_true rfl) rfl ?_
  have hc0 : ∀ a b c, nC m a b = some c → 0 ≤ c := fun a b c h => (TW_c hm a b c h).1
  refine st_X3_quarrelIn_0 ?_; simp only [bX3_quarrelIn_0, exP, stP, p1, p2, pr, pobj, parr, sh0, sh1, sh2, sh3, sh4, sh5, sh6, sh7, sh8, sh9, sh10, sh11, sh12, sh13, sh14, sh15, sh16, sh17, sh18, sh19, sh20, sh21, sh22, sh23, sh24, sh25, sh26, sh27, sh28, sh29, sh30, sh31, sh32, sh33, sh34, sh35, sh36, sh37, sh38, sh39, sh40, sh41, sh42, sh43, sh44, sh45, sh46, sh47, sh48, sh49, sh50, sh51, sh52, sh53, sh54, sh55, sh56, sh57, sh58, sh59, brP, brN, swP, amask, apush, List.getElem?_cons_zero, List.getElem?_cons_succ, List.set_cons_zero, List.set_cons_succ, List.take_succ_cons, List.take_zero, List.drop_succ_cons, List.drop_zero, List.reverse_cons, List.reverse_nil, List.nil_append, List.cons_append, List.length_cons, List.length_nil, true_and, and_true, Nat.zero_le, Nat.reduceLeDiff, Nat.reduceAdd, Nat.reduceEqDiff, false_imp_iff, true_imp_iff, not_false_eq_true, not_true_eq_false, imp_self, forall_const]
  refine ⟨_, ⟨2, by decide, c_roundsToBreak m hm A hA⟩, ?_⟩
  rintro z u (⟨k, hk, rfl, hfst, hI, -⟩ | ⟨k, rfl, hI, hnb, hst⟩)
  · simp only [exP, stP, p1, p2, pr, pobj, parr, sh0, sh1, sh2, sh3, sh4, sh5, sh6, sh7, sh8, sh9, sh10, sh11, sh12, sh13, sh14, sh15, sh16, sh17, sh18, sh19, sh20, sh21, sh22, sh23, sh24, sh25, sh26, sh27, sh28, sh29, sh30, sh31, sh32, sh33, sh34, sh35, sh36, sh37, sh38, sh39, sh40, sh41, sh42, sh43, sh44, sh45, sh46, sh47, sh48, sh49, sh50, sh51, sh52, sh53, sh54, sh55, sh56, sh57, sh58, sh59, brP, brN, swP, amask, apush, List.getElem?_cons_zero, List.getElem?_cons_succ, List.set_cons_zero, List.set_cons_succ, List.take_succ_cons, List.take_zero, List.drop_succ_cons, List.drop_zero, List.reverse_cons, List.reverse_nil, List.nil_append, List.cons_append, List.length_cons, List.length_nil, true_and, and_true, Nat.zero_le, Nat.reduceLeDiff, Nat.reduceAdd, Nat.reduceEqDiff, false_imp_iff, true_imp_iff, not_false_eq_true, not_true_eq_false, imp_self, forall_const, nI_m1 (show k < 2147483648 by omega)]
    obtain ⟨q, hq⟩ := isQ_ex (brk_nagr hfst.1)
    have hq12 : low12 q := fun i hi => lt_low12 hA i (hq.1 i hi)
    have loop : ∀ (n left : Nat) (u : AM), n ≤ 12 → RM m u → sub left A → low12 left → (∀ i, n ≤ i → left.testBit i = q.testBit i) → (∀ i, i < n → left.testBit i = A.testBit i) → AW 3 kX3_quarrelIn (QQ m A) 19 [some (.inr 15), none, some (.inl (nI k)), some (.inl (nI left)), some (.inl (nI n - 1)), none] [] u := by
      intro n
      induction n with
      | zero =>
        intro left u _ hu h1 h2 h3 h4
        refine st_X3_quarrelIn_19 ?_; simp only [bX3_quarrelIn_19, exP, stP, p1, p2, pr, pobj, parr, sh0, sh1, sh2, sh3, sh4, sh5, sh6, sh7, sh8, sh9, sh10, sh11, sh12, sh13, sh14, sh15, sh16, sh17, sh18, sh19, sh20, sh21, sh22, sh23, sh24, sh25, sh26, sh27, sh28, sh29, sh30, sh31, sh32, sh33, sh34, sh35, sh36, sh37, sh38, sh39, sh40, sh41, sh42, sh43, sh44, sh45, sh46, sh47, sh48, sh49, sh50, sh51, sh52, sh53, sh54, sh55, sh56, sh57, sh58, sh59, brP, brN, swP, amask, apush, List.getElem?_cons_zero, List.getElem?_cons_succ, List.set_cons_zero, List.set_cons_succ, List.take_succ_cons, List.take_zero, List.drop_succ_cons, List.drop_zero, List.reverse_cons, List.reverse_nil, List.nil_append, List.cons_append, List.length_cons, List.length_nil, true_and, and_true, Nat.zero_le, Nat.reduceLeDiff, Nat.reduceAdd, Nat.reduceEqDiff, false_imp_iff, true_imp_iff, not_false_eq_true, not_true_eq_false, imp_self, forall_const]
        refine ⟨fun _ => ?_, fun c => absurd (by decide) c⟩
        refine st_X3_quarrelIn_59 ?_; simp only [bX3_quarrelIn_59, exP, stP, p1, p2, pr, pobj, parr, sh0, sh1, sh2, sh3, sh4, sh5, sh6, sh7, sh8, sh9, sh10, sh11, sh12, sh13, sh14, sh15, sh16, sh17, sh18, sh19, sh20, sh21, sh22, sh23, sh24, sh25, sh26, sh27, sh28, sh29, sh30, sh31, sh32, sh33, sh34, sh35, sh36, sh37, sh38, sh39, sh40, sh41, sh42, sh43, sh44, sh45, sh46, sh47, sh48, sh49, sh50, sh51, sh52, sh53, sh54, sh55, sh56, sh57, sh58, sh59, brP, brN, swP, amask, apush, List.getElem?_cons_zero, List.getElem?_cons_succ, List.set_cons_zero, List.set_cons_succ, List.take_succ_cons, List.take_zero, List.drop_succ_cons, List.drop_zero, List.reverse_cons, List.reverse_nil, List.nil_append, List.cons_append, List.length_cons, List.length_nil, true_and, and_true, Nat.zero_le, Nat.reduceLeDiff, Nat.reduceAdd, Nat.reduceEqDiff, false_imp_iff, true_imp_iff, not_false_eq_true, not_true_eq_false, imp_self, forall_const]
        refine ⟨Or.inl trivial, hu, Or.inr ⟨left, rfl, ?_⟩⟩
        have : left = q := set_ext h2 hq12 (fun i _ => h3 i (by omega))
        rw [this]; exact hq
      | succ d ih =>
        intro left u hd hu h1 h2 h3 h4
        have hl := low12_lt h2
        have e1 : nI (d + 1) - 1 = nI d := nI_pred d
        rw [e1]
        have hbit : ∀ i, (dif left (2 ^ d)).testBit i = (left.testBit i && !decide (i = d)) := fun i => by
          rw [dif_bit, Nat.testBit_two_pow]
          by_cases r : d = i
          · subst r; simp
          · have r2 : ¬ i = d := fun s => r s.symm
            simp [r, r2]
        have hflow : low12 (dif left (2 ^ d)) := fun i hi => by
          rw [hbit] at hi
          simp at hi
          exact h2 i hi.1
        have hfl := low12_lt hflow
        have e2 : nI d + -1 = nI d - 1 := by rw [Int32.sub_eq_add_neg]
        have keep : q.testBit d = left.testBit d → ∀ u, RM m u → AW 3 kX3_quarrelIn (QQ m A) 53 [some (.inr 15), none, some (.inl (nI k)), some (.inl (nI left)), some (.inl (nI d)), none] [] u := by
          intro hqd u hu
          refine st_X3_quarrelIn_53 ?_; simp only [bX3_quarrelIn_53, exP, stP, p1, p2, pr, pobj, parr, sh0, sh1, sh2, sh3, sh4, sh5, sh6, sh7, sh8, sh9, sh10, sh11, sh12, sh13, sh14, sh15, sh16, sh17, sh18, sh19, sh20, sh21, sh22, sh23, sh24, sh25, sh26, sh27, sh28, sh29, sh30, sh31, sh32, sh33, sh34, sh35, sh36, sh37, sh38, sh39, sh40, sh41, sh42, sh43, sh44, sh45, sh46, sh47, sh48, sh49, sh50, sh51, sh52, sh53, sh54, sh55, sh56, sh57, sh58, sh59, brP, brN, swP, amask, apush, List.getElem?_cons_zero, List.getElem?_cons_succ, List.set_cons_zero, List.set_cons_succ, List.take_succ_cons, List.take_zero, List.drop_succ_cons, List.drop_zero, List.reverse_cons, List.reverse_nil, List.nil_append, List.cons_append, List.length_cons, List.length_nil, true_and, and_true, Nat.zero_le, Nat.reduceLeDiff, Nat.reduceAdd, Nat.reduceEqDiff, false_imp_iff, true_imp_iff, not_false_eq_true, not_true_eq_false, imp_self, forall_const]
          rw [e2]
          refine ih left u (by omega) hu h1 h2 (fun i hi => ?_) (fun i hi => h4 i (by omega))
          by_cases r : i = d
          · rw [r, hqd]
          · exact h3 i (by omega)
        refine st_X3_quarrelIn_19 ?_; simp only [bX3_quarrelIn_19, exP, stP, p1, p2, pr, pobj, parr, sh0, sh1, sh2, sh3, sh4, sh5, sh6, sh7, sh8, sh9, sh10, sh11, sh12, sh13, sh14, sh15, sh16, sh17, sh18, sh19, sh20, sh21, sh22, sh23, sh24, sh25, sh26, sh27, sh28, sh29, sh30, sh31, sh32, sh33, sh34, sh35, sh36, sh37, sh38, sh39, sh40, sh41, sh42, sh43, sh44, sh45, sh46, sh47, sh48, sh49, sh50, sh51, sh52, sh53, sh54, sh55, sh56, sh57, sh58, sh59, brP, brN, swP, amask, apush, List.getElem?_cons_zero, List.getElem?_cons_succ, List.set_cons_zero, List.set_cons_succ, List.take_succ_cons, List.take_zero, List.drop_succ_cons, List.drop_zero, List.reverse_cons, List.reverse_nil, List.nil_append, List.cons_append, List.length_cons, List.length_nil, true_and, and_true, Nat.zero_le, Nat.reduceLeDiff, Nat.reduceAdd, Nat.reduceEqDiff, false_imp_iff, true_imp_iff, not_false_eq_true, not_true_eq_false, imp_self, forall_const, nI_lt0 (show d < 2147483648 by omega)]
        refine st_X3_quarrelIn_24 ?_; simp only [bX3_quarrelIn_24, exP, stP, p1, p2, pr, pobj, parr, sh0, sh1, sh2, sh3, sh4, sh5, sh6, sh7, sh8, sh9, sh10, sh11, sh12, sh13, sh14, sh15, sh16, sh17, sh18, sh19, sh20, sh21, sh22, sh23, sh24, sh25, sh26, sh27, sh28, sh29, sh30, sh31, sh32, sh33, sh34, sh35, sh36, sh37, sh38, sh39, sh40, sh41, sh42, sh43, sh44, sh45, sh46, sh47, sh48, sh49, sh50, sh51, sh52, sh53, sh54, sh55, sh56, sh57, sh58, sh59, brP, brN, swP, amask, apush, List.getElem?_cons_zero, List.getElem?_cons_succ, List.set_cons_zero, List.set_cons_succ, List.take_succ_cons, List.take_zero, List.drop_succ_cons, List.drop_zero, List.reverse_cons, List.reverse_nil, List.nil_append, List.cons_append, List.length_cons, List.length_nil, true_and, and_true, Nat.zero_le, Nat.reduceLeDiff, Nat.reduceAdd, Nat.reduceEqDiff, false_imp_iff, true_imp_iff, not_false_eq_true, not_true_eq_false, imp_self, forall_const, and_not hl (show d < 12 by omega), nI_inj (show dif left (2 ^ d) < 2147483648 by omega) (show left < 2147483648 by omega)]
        refine ⟨fun c => ?_, fun c => ?_⟩
        · have hld : left.testBit d = false := by
            have := hbit d
            rw [c] at this
            simpa using this
          have hqd : q.testBit d = false := by
            cases r : q.testBit d with
            | false => rfl
            | true =>
              have r1 := hq.1 d r
              rw [← h4 d (by omega), hld] at r1
              cases r1
          exact keep (by rw [hqd, hld]) u hu
        · have hld : left.testBit d = true := by
            cases r : left.testBit d with
            | true => rfl
            | false =>
              exfalso
              apply c
              apply set_ext hflow h2
              intro i _
              rw [hbit]
              by_cases s : i = d
              · subst s; simp [r]
              · simp [s]
          have hfA : sub (dif left (2 ^ d)) A := fun i hi => by
            rw [hbit] at hi
            simp at hi
            exact h1 i hi.1
          have hmust : q.testBit d = true → ¬ fst (nF m) (nL m) (nC m) (dif left (2 ^ d)) k := fun r => isQ_must hc0 hq hfst hfA r (by rw [hbit]; simp) (fun i hi hfi => by
            rw [hbit] at hfi
            simp at hfi
            rw [← h3 i (by omega)]
            exact hfi.1)
          have hkeep : q.testBit d = false → fst (nF m) (nL m) (nC m) (dif left (2 ^ d)) k := fun r => isQ_keep hc0 hq hfst hfA (fun i hi => by
            rw [hbit]
            have s : i ≠ d := fun s => by rw [s, r] at hi; cases hi
            have s2 : left.testBit i = true := by
              rcases Nat.lt_or_ge i (d + 1) with w | w
              · rw [h4 i w]; exact hq.1 i hi
              · rw [h3 i w]; exact hi
            simp [s, s2])
          refine st_X3_quarrelIn_40 ?_; simp only [bX3_quarrelIn_40, exP, stP, p1, p2, pr, pobj, parr, sh0, sh1, sh2, sh3, sh4, sh5, sh6, sh7, sh8, sh9, sh10, sh11, sh12, sh13, sh14, sh15, sh16, sh17, sh18, sh19, sh20, sh21, sh22, sh23, sh24, sh25, sh26, sh27, sh28, sh29, sh30, sh31, sh32, sh33, sh34, sh35, sh36, sh37, sh38, sh39, sh40, sh41, sh42, sh43, sh44, sh45, sh46, sh47, sh48, sh49, sh50, sh51, sh52, sh53, sh54, sh55, sh56, sh57, sh58, sh59, brP, brN, swP, amask, apush, List.getElem?_cons_zero, List.getElem?_cons_succ, List.set_cons_zero, List.set_cons_succ, List.take_succ_cons, List.take_zero, List.drop_succ_cons, List.drop_zero, List.reverse_cons, List.reverse_nil, List.nil_append, List.cons_append, List.length_cons, List.length_nil, true_and, and_true, Nat.zero_le, Nat.reduceLeDiff, Nat.reduceAdd, Nat.reduceEqDiff, false_imp_iff, true_imp_iff, not_false_eq_true, not_true_eq_false, imp_self, forall_const]
          refine ⟨_, ⟨2, by decide, c_roundsToBreak u (hu.tw hm) (dif left (2 ^ d)) hfl⟩, ?_⟩
          unfold RQ
          rw [hu.eF, hu.eL, hu.eC]
          rintro z u' (⟨k', hk', rfl, hfst', hI', -⟩ | ⟨k', rfl, hI', hnb', hst'⟩)
          · simp only [exP, stP, p1, p2, pr, pobj, parr, sh0, sh1, sh2, sh3, sh4, sh5, sh6, sh7, sh8, sh9, sh10, sh11, sh12, sh13, sh14, sh15, sh16, sh17, sh18, sh19, sh20, sh21, sh22, sh23, sh24, sh25, sh26, sh27, sh28, sh29, sh30, sh31, sh32, sh33, sh34, sh35, sh36, sh37, sh38, sh39, sh40, sh41, sh42, sh43, sh44, sh45, sh46, sh47, sh48, sh49, sh50, sh51, sh52, sh53, sh54, sh55, sh56, sh57, sh58, sh59, brP, brN, swP, amask, apush, List.getElem?_cons_zero, List.getElem?_cons_succ, List.set_cons_zero, List.set_cons_succ, List.take_succ_cons, List.take_zero, List.drop_succ_cons, List.drop_zero, List.reverse_cons, List.reverse_nil, List.nil_append, List.cons_append, List.length_cons, List.length_nil, true_and, and_true, Nat.zero_le, Nat.reduceLeDiff, Nat.reduceAdd, Nat.reduceEqDiff, false_imp_iff, true_imp_iff, not_false_eq_true, not_true_eq_false, imp_self, forall_const, nI_inj (show k' < 2147483648 by omega) (show k < 2147483648 by omega)]
            have hu' := hu.tr hI'.rm
            refine ⟨fun s => ?_, fun s => ?_⟩
            · refine keep ?_ u' hu'
              rw [hld]
              cases r : q.testBit d with
              | true => rfl
              | false => exact absurd (fst_uniq hfst' (hkeep r)) s
            · subst s
              have hqd : q.testBit d = false := by
                cases r : q.testBit d with
                | false => rfl
                | true => exact absurd hfst' (hmust r)
              refine st_X3_quarrelIn_50 ?_; simp only [bX3_quarrelIn_50, exP, stP, p1, p2, pr, pobj, parr, sh0, sh1, sh2, sh3, sh4, sh5, sh6, sh7, sh8, sh9, sh10, sh11, sh12, sh13, sh14, sh15, sh16, sh17, sh18, sh19, sh20, sh21, sh22, sh23, sh24, sh25, sh26, sh27, sh28, sh29, sh30, sh31, sh32, sh33, sh34, sh35, sh36, sh37, sh38, sh39, sh40, sh41, sh42, sh43, sh44, sh45, sh46, sh47, sh48, sh49, sh50, sh51, sh52, sh53, sh54, sh55, sh56, sh57, sh58, sh59, brP, brN, swP, amask, apush, List.getElem?_cons_zero, List.getElem?_cons_succ, List.set_cons_zero, List.set_cons_succ, List.take_succ_cons, List.take_zero, List.drop_succ_cons, List.drop_zero, List.reverse_cons, List.reverse_nil, List.nil_append, List.cons_append, List.length_cons, List.length_nil, true_and, and_true, Nat.zero_le, Nat.reduceLeDiff, Nat.reduceAdd, Nat.reduceEqDiff, false_imp_iff, true_imp_iff, not_false_eq_true, not_true_eq_false, imp_self, forall_const]
              refine st_X3_quarrelIn_53 ?_; simp only [bX3_quarrelIn_53, exP, stP, p1, p2, pr, pobj, parr, sh0, sh1, sh2, sh3, sh4, sh5, sh6, sh7, sh8, sh9, sh10, sh11, sh12, sh13, sh14, sh15, sh16, sh17, sh18, sh19, sh20, sh21, sh22, sh23, sh24, sh25, sh26, sh27, sh28, sh29, sh30, sh31, sh32, sh33, sh34, sh35, sh36, sh37, sh38, sh39, sh40, sh41, sh42, sh43, sh44, sh45, sh46, sh47, sh48, sh49, sh50, sh51, sh52, sh53, sh54, sh55, sh56, sh57, sh58, sh59, brP, brN, swP, amask, apush, List.getElem?_cons_zero, List.getElem?_cons_succ, List.set_cons_zero, List.set_cons_succ, List.take_succ_cons, List.take_zero, List.drop_succ_cons, List.drop_zero, List.reverse_cons, List.reverse_nil, List.nil_append, List.cons_append, List.length_cons, List.length_nil, true_and, and_true, Nat.zero_le, Nat.reduceLeDiff, Nat.reduceAdd, Nat.reduceEqDiff, false_imp_iff, true_imp_iff, not_false_eq_true, not_true_eq_false, imp_self, forall_const]
              rw [e2]
              refine ih (dif left (2 ^ d)) u' (by omega) hu' hfA hflow (fun i hi => ?_) (fun i hi => ?_)
              · rw [hbit]
                by_cases r : i = d
                · rw [r, hqd]; simp
                · rw [h3 i (by omega)]; simp [r]
              · rw [hbit, h4 i (by omega)]
                have r : i ≠ d := by omega
                simp [r]
          · have hu' := hu.tr hI'.rm
            have hne : ¬ (-1 : Int32) = nI k := fun s => by
              have := nI_m1 (d := k) (by omega)
              rw [← s] at this
              simp at this
            simp only [exP, stP, p1, p2, pr, pobj, parr, sh0, sh1, sh2, sh3, sh4, sh5, sh6, sh7, sh8, sh9, sh10, sh11, sh12, sh13, sh14, sh15, sh16, sh17, sh18, sh19, sh20, sh21, sh22, sh23, sh24, sh25, sh26, sh27, sh28, sh29, sh30, sh31, sh32, sh33, sh34, sh35, sh36, sh37, sh38, sh39, sh40, sh41, sh42, sh43, sh44, sh45, sh46, sh47, sh48, sh49, sh50, sh51, sh52, sh53, sh54, sh55, sh56, sh57, sh58, sh59, brP, brN, swP, amask, apush, List.getElem?_cons_zero, List.getElem?_cons_succ, List.set_cons_zero, List.set_cons_succ, List.take_succ_cons, List.take_zero, List.drop_succ_cons, List.drop_zero, List.reverse_cons, List.reverse_nil, List.nil_append, List.cons_append, List.length_cons, List.length_nil, true_and, and_true, Nat.zero_le, Nat.reduceLeDiff, Nat.reduceAdd, Nat.reduceEqDiff, false_imp_iff, true_imp_iff, not_false_eq_true, not_true_eq_false, imp_self, forall_const, hne]
            refine keep ?_ u' hu'
            rw [hld]
            cases r : q.testBit d with
            | true => rfl
            | false => exact absurd ⟨_, agr_of_stable (fun b hb _ => hst' b hb) hnb'⟩ (brk_nagr (hkeep r).1)
    refine st_X3_quarrelIn_13 ?_; simp only [bX3_quarrelIn_13, exP, stP, p1, p2, pr, pobj, parr, sh0, sh1, sh2, sh3, sh4, sh5, sh6, sh7, sh8, sh9, sh10, sh11, sh12, sh13, sh14, sh15, sh16, sh17, sh18, sh19, sh20, sh21, sh22, sh23, sh24, sh25, sh26, sh27, sh28, sh29, sh30, sh31, sh32, sh33, sh34, sh35, sh36, sh37, sh38, sh39, sh40, sh41, sh42, sh43, sh44, sh45, sh46, sh47, sh48, sh49, sh50, sh51, sh52, sh53, sh54, sh55, sh56, sh57, sh58, sh59, brP, brN, swP, amask, apush, List.getElem?_cons_zero, List.getElem?_cons_succ, List.set_cons_zero, List.set_cons_succ, List.take_succ_cons, List.take_zero, List.drop_succ_cons, List.drop_zero, List.reverse_cons, List.reverse_nil, List.nil_append, List.cons_append, List.length_cons, List.length_nil, true_and, and_true, Nat.zero_le, Nat.reduceLeDiff, Nat.reduceAdd, Nat.reduceEqDiff, false_imp_iff, true_imp_iff, not_false_eq_true, not_true_eq_false, imp_self, forall_const]
    exact loop 12 A u (Nat.le_refl _) hI.rm (fun i hi => hi) (lt_low12 hA) (fun i hi => by
      have a1 : A.testBit i = false := by
        cases r : A.testBit i with
        | false => rfl
        | true => have := lt_low12 hA i r; omega
      have a2 : q.testBit i = false := by
        cases r : q.testBit i with
        | false => rfl
        | true => have := hq12 i r; omega
      rw [a1, a2]) (fun _ _ => rfl)
  · simp only [exP, stP, p1, p2, pr, pobj, parr, sh0, sh1, sh2, sh3, sh4, sh5, sh6, sh7, sh8, sh9, sh10, sh11, sh12, sh13, sh14, sh15, sh16, sh17, sh18, sh19, sh20, sh21, sh22, sh23, sh24, sh25, sh26, sh27, sh28, sh29, sh30, sh31, sh32, sh33, sh34, sh35, sh36, sh37, sh38, sh39, sh40, sh41, sh42, sh43, sh44, sh45, sh46, sh47, sh48, sh49, sh50, sh51, sh52, sh53, sh54, sh55, sh56, sh57, sh58, sh59, brP, brN, swP, amask, apush, List.getElem?_cons_zero, List.getElem?_cons_succ, List.set_cons_zero, List.set_cons_succ, List.take_succ_cons, List.take_zero, List.drop_succ_cons, List.drop_zero, List.reverse_cons, List.reverse_nil, List.nil_append, List.cons_append, List.length_cons, List.length_nil, true_and, and_true, Nat.zero_le, Nat.reduceLeDiff, Nat.reduceAdd, Nat.reduceEqDiff, false_imp_iff, true_imp_iff, not_false_eq_true, not_true_eq_false, imp_self, forall_const]
    refine st_X3_quarrelIn_11 ?_; simp only [bX3_quarrelIn_11, exP, stP, p1, p2, pr, pobj, parr, sh0, sh1, sh2, sh3, sh4, sh5, sh6, sh7, sh8, sh9, sh10, sh11, sh12, sh13, sh14, sh15, sh16, sh17, sh18, sh19, sh20, sh21, sh22, sh23, sh24, sh25, sh26, sh27, sh28, sh29, sh30, sh31, sh32, sh33, sh34, sh35, sh36, sh37, sh38, sh39, sh40, sh41, sh42, sh43, sh44, sh45, sh46, sh47, sh48, sh49, sh50, sh51, sh52, sh53, sh54, sh55, sh56, sh57, sh58, sh59, brP, brN, swP, amask, apush, List.getElem?_cons_zero, List.getElem?_cons_succ, List.set_cons_zero, List.set_cons_succ, List.take_succ_cons, List.take_zero, List.drop_succ_cons, List.drop_zero, List.reverse_cons, List.reverse_nil, List.nil_append, List.cons_append, List.length_cons, List.length_nil, true_and, and_true, Nat.zero_le, Nat.reduceLeDiff, Nat.reduceAdd, Nat.reduceEqDiff, false_imp_iff, true_imp_iff, not_false_eq_true, not_true_eq_false, imp_self, forall_const]
    exact ⟨Or.inl trivial, hI.rm, Or.inl ⟨rfl, _, agr_of_stable (fun b hb _ => hst b hb) hnb⟩⟩
end
section
/-! ===== the years: least and greatest ===== -/
def clo (cst : Nat → Nat → Option Int) (t : Nat) (y : Nat → Int) : Prop := ∀ a b c, a < 12 → b < 12 → t.testBit a = true → t.testBit b = true → cst a b = some c → y b ≤ y a + c
/-- the greatest years under L, the least years over F, of the set t -/
def isG (L : Nat → Int) (cst : Nat → Nat → Option Int) (t : Nat) (G : Nat → Int) : Prop := (∀ b, b < 12 → t.testBit b = true → G b ≤ L b) ∧ clo cst t G ∧ ∀ y, (∀ b, b < 12 → t.testBit b = true → y b ≤ L b) → clo cst t y → ∀ b, b < 12 → t.testBit b = true → y b ≤ G b
def isM (F : Nat → Int) (cst : Nat → Nat → Option Int) (t : Nat) (Y : Nat → Int) : Prop := (∀ b, b < 12 → t.testBit b = true → F b ≤ Y b) ∧ clo cst t Y ∧ ∀ y, (∀ b, b < 12 → t.testBit b = true → F b ≤ y b) → clo cst t y → ∀ b, b < 12 → t.testBit b = true → Y b ≤ y b
theorem isG_uniq {L : Nat → Int} {cst : Nat → Nat → Option Int} {t : Nat} {G G' : Nat → Int} (h : isG L cst t G) (h' : isG L cst t G') : ∀ b, b < 12 → t.testBit b = true → G b = G' b := by
  intro b hb htb
  have h1 := h'.2.2 G h.1 h.2.1 b hb htb
  have h2 := h.2.2 G' h'.1 h'.2.1 b hb htb
  omega
theorem isM_uniq {F : Nat → Int} {cst : Nat → Nat → Option Int} {t : Nat} {G G' : Nat → Int} (h : isM F cst t G) (h' : isM F cst t G') : ∀ b, b < 12 → t.testBit b = true → G b = G' b := by
  intro b hb htb
  have h1 := h'.2.2 G h.1 h.2.1 b hb htb
  have h2 := h.2.2 G' h'.1 h'.2.1 b hb htb
  omega
theorem isG_lat {L : Nat → Int} {cst : Nat → Nat → Option Int} {t k : Nat} (hs : ∀ b, b < 12 → t.testBit b = true → lat L cst t (k + 1) b = lat L cst t k b) : isG L cst t (lat L cst t k) := by
  refine ⟨fun b _ _ => lat_dec (L := L) (cst := cst) t b (Nat.zero_le k), fun a b c ha hb hta htb hc => ?_, fun y hy hc b hb htb => ?_⟩
  · rw [← hs b hb htb]
    exact lat_edge ha hta htb hc
  · exact lat_sol (F := y) (L := L) (cst := cst) (t := t) (y := y) ⟨fun d hd htd => ⟨Int.le_refl _, hy d hd htd⟩, hc⟩ k b hb htb
def dC (cst : Nat → Nat → Option Int) : Nat → Nat → Option Int := fun a b => cst b a
/-- what one raising has done so far -/
def UI (m : AM) (t : Nat) (u : AM) (ch : Bool) (P : Nat → Nat → Prop) : Prop :=
  (∀ k, k ≠ 20 → u k = m k) ∧ (∀ b, b < 12 → (m 20 b).toInt ≤ (u 20 b).toInt ∧ (u 20 b).toInt ≤ 3000) ∧
  (∀ a b c, a < 12 → b < 12 → P a b → t.testBit a = true → t.testBit b = true → nC m a b = some c → (m 20 b).toInt - c ≤ (u 20 a).toInt) ∧
  (∀ y : Nat → Int, (∀ b, b < 12 → t.testBit b = true → (m 20 b).toInt ≤ y b) → clo (nC m) t y → ∀ b, b < 12 → t.testBit b = true → (u 20 b).toInt ≤ y b) ∧
  (ch = false → ∀ b, b < 12 → (u 20 b).toInt = (m 20 b).toInt) ∧ (ch = true → ∃ b, b < 12 ∧ t.testBit b = true ∧ (m 20 b).toInt < (u 20 b).toInt)
def UQ (m : AM) (t : Nat) : APost := fun z u => ∃ ch, z = some (b01 ch) ∧ UI m t u ch (fun _ _ => True)
theorem UI.P {m : AM} {t : Nat} {u : AM} {ch : Bool} {P P' : Nat → Nat → Prop} (h : UI m t u ch P) (hp : ∀ a b c, a < 12 → b < 12 → t.testBit a = true → t.testBit b = true → nC m a b = some c → P' a b → P a b) : UI m t u ch P' :=
  ⟨h.1, h.2.1, fun a b c ha hb hP hta htb hc => h.2.2.1 a b c ha hb (hp a b c ha hb hta htb hc hP) hta htb hc, h.2.2.2⟩
theorem w_up_in (m : AM) (hm : TW m) (hX : ∀ b, b < 12 → 0 ≤ (m 20 b).toInt ∧ (m 20 b).toInt ≤ 3000) (t a : Nat) (ht : t < 4096) (ha : a < 12) (bd : Int32) (hbd : ∀ b, b < 12 → (bt bd b = true ↔ (t.testBit a = true ∧ t.testBit b = true ∧ ∃ c, nC m a b = some c)))
    (kk : ∀ u ch, UI m t u ch (fun x _ => x < a + 1) → AW 1 kX3_raiseOnce (UQ m t) 129 [some (.inr 15), some (.inl (nI t)), some (.inl (b01 ch)), some (.inl (nI a)), none, none, none] [] u) :
    ∀ (n j : Nat) (u : AM) (ch : Bool), j + n = 12 → UI m t u ch (fun x b => x < a ∨ (x = a ∧ b < j)) → AW 1 kX3_raiseOnce (UQ m t) 42 [some (.inr 15), some (.inl (nI t)), some (.inl (b01 ch)), some (.inl (nI a)), some (.inl bd), some (.inl (nI j)), none] [] u
  | 0, j, u, ch, h, hI => by
    obtain rfl : j = 12 := by omega
    refine st_X3_raiseOnce_42 ?_; simp only [bX3_raiseOnce_42, exP, stP, p1, p2, pr, pobj, parr, sh0, sh1, sh2, sh3, sh4, sh5, sh6, sh7, sh8, sh9, sh10, sh11, sh12, sh13, sh14, sh15, sh16, sh17, sh18, sh19, sh20, sh21, sh22, sh23, sh24, sh25, sh26, sh27, sh28, sh29, sh30, sh31, sh32, sh33, sh34, sh35, sh36, sh37, sh38, sh39, sh40, sh41, sh42, sh43, sh44, sh45, sh46, sh47, sh48, sh49, sh50, sh51, sh52, sh53, sh54, sh55, sh56, sh57, sh58, sh59, brP, brN, swP, amask, apush, List.getElem?_cons_zero, List.getElem?_cons_succ, List.set_cons_zero, List.set_cons_succ, List.take_succ_cons, List.take_zero, List.drop_succ_cons, List.drop_zero, List.reverse_cons, List.reverse_nil, List.nil_append, List.cons_append, List.length_cons, List.length_nil, true_and, and_true, Nat.zero_le, Nat.reduceLeDiff, Nat.reduceAdd, Nat.reduceEqDiff, false_imp_iff, true_imp_iff, not_false_eq_true, not_true_eq_false, imp_self, forall_const, lit_le (k := 12) (n := 12) (by omega) (by omega)]
    exact kk u ch (hI.P (fun x b c hx hb _ _ _ q => by omega))
  | n + 1, j, u, ch, h, hI => by
    have hj : j < 12 := by omega
    have vj := eq_true (vp_in_nI (show j < 12 by omega) (show 12 < 2 ^ 31 by omega))
    have cj := nI_clamp (show j < 2 ^ 31 by omega)
    have va := eq_true (vp_in_nI (show a < 12 by omega) (show 12 < 2 ^ 31 by omega))
    have ca := nI_clamp (show a < 2 ^ 31 by omega)
    have hc0 := TW_c hm
    refine st_X3_raiseOnce_42 ?_; simp only [bX3_raiseOnce_42, exP, stP, p1, p2, pr, pobj, parr, sh0, sh1, sh2, sh3, sh4, sh5, sh6, sh7, sh8, sh9, sh10, sh11, sh12, sh13, sh14, sh15, sh16, sh17, sh18, sh19, sh20, sh21, sh22, sh23, sh24, sh25, sh26, sh27, sh28, sh29, sh30, sh31, sh32, sh33, sh34, sh35, sh36, sh37, sh38, sh39, sh40, sh41, sh42, sh43, sh44, sh45, sh46, sh47, sh48, sh49, sh50, sh51, sh52, sh53, sh54, sh55, sh56, sh57, sh58, sh59, brP, brN, swP, amask, apush, List.getElem?_cons_zero, List.getElem?_cons_succ, List.set_cons_zero, List.set_cons_succ, List.take_succ_cons, List.take_zero, List.drop_succ_cons, List.drop_zero, List.reverse_cons, List.reverse_nil, List.nil_append, List.cons_append, List.length_cons, List.length_nil, true_and, and_true, Nat.zero_le, Nat.reduceLeDiff, Nat.reduceAdd, Nat.reduceEqDiff, false_imp_iff, true_imp_iff, not_false_eq_true, not_true_eq_false, imp_self, forall_const, lit_nle (k := 12) (n := j) hj (by omega)]
    refine st_X3_raiseOnce_49 ?_; simp only [bX3_raiseOnce_49, exP, stP, p1, p2, pr, pobj, parr, sh0, sh1, sh2, sh3, sh4, sh5, sh6, sh7, sh8, sh9, sh10, sh11, sh12, sh13, sh14, sh15, sh16, sh17, sh18, sh19, sh20, sh21, sh22, sh23, sh24, sh25, sh26, sh27, sh28, sh29, sh30, sh31, sh32, sh33, sh34, sh35, sh36, sh37, sh38, sh39, sh40, sh41, sh42, sh43, sh44, sh45, sh46, sh47, sh48, sh49, sh50, sh51, sh52, sh53, sh54, sh55, sh56, sh57, sh58, sh59, brP, brN, swP, amask, apush, List.getElem?_cons_zero, List.getElem?_cons_succ, List.set_cons_zero, List.set_cons_succ, List.take_succ_cons, List.take_zero, List.drop_succ_cons, List.drop_zero, List.reverse_cons, List.reverse_nil, List.nil_append, List.cons_append, List.length_cons, List.length_nil, true_and, and_true, Nat.zero_le, Nat.reduceLeDiff, Nat.reduceAdd, Nat.reduceEqDiff, false_imp_iff, true_imp_iff, not_false_eq_true, not_true_eq_false, imp_self, forall_const]
    refine ⟨fun c => ?_, fun c => ?_⟩
    · refine kk u ch (hI.P (fun x b cc hx hb hta htb hcc q => ?_))
      by_cases r : x = a
      · subst r
        have := (hbd b hb).mpr ⟨hta, htb, cc, hcc⟩
        rw [c, b_0] at this
        cases this
      · omega
    · have back : ∀ (u' : AM) (ch' : Bool), UI m t u' ch' (fun x b => x < a ∨ (x = a ∧ b < j + 1)) → AW 1 kX3_raiseOnce (UQ m t) 123 [some (.inr 15), some (.inl (nI t)), some (.inl (b01 ch')), some (.inl (nI a)), some (.inl bd), some (.inl (nI j)), none] [] u' := by
        intro u' ch' hI'
        refine st_X3_raiseOnce_123 ?_; simp only [bX3_raiseOnce_123, exP, stP, p1, p2, pr, pobj, parr, sh0, sh1, sh2, sh3, sh4, sh5, sh6, sh7, sh8, sh9, sh10, sh11, sh12, sh13, sh14, sh15, sh16, sh17, sh18, sh19, sh20, sh21, sh22, sh23, sh24, sh25, sh26, sh27, sh28, sh29, sh30, sh31, sh32, sh33, sh34, sh35, sh36, sh37, sh38, sh39, sh40, sh41, sh42, sh43, sh44, sh45, sh46, sh47, sh48, sh49, sh50, sh51, sh52, sh53, sh54, sh55, sh56, sh57, sh58, sh59, brP, brN, swP, amask, apush, List.getElem?_cons_zero, List.getElem?_cons_succ, List.set_cons_zero, List.set_cons_succ, List.take_succ_cons, List.take_zero, List.drop_succ_cons, List.drop_zero, List.reverse_cons, List.reverse_nil, List.nil_append, List.cons_append, List.length_cons, List.length_nil, true_and, and_true, Nat.zero_le, Nat.reduceLeDiff, Nat.reduceAdd, Nat.reduceEqDiff, false_imp_iff, true_imp_iff, not_false_eq_true, not_true_eq_false, imp_self, forall_const]
        rw [nI_1]
        exact w_up_in m hm hX t a ht ha bd hbd kk n (j + 1) u' ch' (by omega) hI'
      have fin : ∀ lim : Int32, (∀ c, nC m a j = some c → lim.toInt = (u 20 j).toInt - c) → AW 1 kX3_raiseOnce (UQ m t) 90 [some (.inr 15), some (.inl (nI t)), some (.inl (b01 ch)), some (.inl (nI a)), some (.inl bd), some (.inl (nI j)), none] [.inl lim] u := by
        intro lim hlim
        refine st_X3_raiseOnce_90 ?_; simp only [bX3_raiseOnce_90, exP, stP, p1, p2, pr, pobj, parr, sh0, sh1, sh2, sh3, sh4, sh5, sh6, sh7, sh8, sh9, sh10, sh11, sh12, sh13, sh14, sh15, sh16, sh17, sh18, sh19, sh20, sh21, sh22, sh23, sh24, sh25, sh26, sh27, sh28, sh29, sh30, sh31, sh32, sh33, sh34, sh35, sh36, sh37, sh38, sh39, sh40, sh41, sh42, sh43, sh44, sh45, sh46, sh47, sh48, sh49, sh50, sh51, sh52, sh53, sh54, sh55, sh56, sh57, sh58, sh59, brP, brN, swP, amask, apush, List.getElem?_cons_zero, List.getElem?_cons_succ, List.set_cons_zero, List.set_cons_succ, List.take_succ_cons, List.take_zero, List.drop_succ_cons, List.drop_zero, List.reverse_cons, List.reverse_nil, List.nil_append, List.cons_append, List.length_cons, List.length_nil, true_and, and_true, Nat.zero_le, Nat.reduceLeDiff, Nat.reduceAdd, Nat.reduceEqDiff, false_imp_iff, true_imp_iff, not_false_eq_true, not_true_eq_false, imp_self, forall_const]
        refine ⟨_, ⟨0, by decide, c_holds _ bd j (by omega)⟩, ?_⟩; rintro _ _ ⟨rfl, rfl⟩; simp only [exP, stP, p1, p2, pr, pobj, parr, sh0, sh1, sh2, sh3, sh4, sh5, sh6, sh7, sh8, sh9, sh10, sh11, sh12, sh13, sh14, sh15, sh16, sh17, sh18, sh19, sh20, sh21, sh22, sh23, sh24, sh25, sh26, sh27, sh28, sh29, sh30, sh31, sh32, sh33, sh34, sh35, sh36, sh37, sh38, sh39, sh40, sh41, sh42, sh43, sh44, sh45, sh46, sh47, sh48, sh49, sh50, sh51, sh52, sh53, sh54, sh55, sh56, sh57, sh58, sh59, brP, brN, swP, amask, apush, List.getElem?_cons_zero, List.getElem?_cons_succ, List.set_cons_zero, List.set_cons_succ, List.take_succ_cons, List.take_zero, List.drop_succ_cons, List.drop_zero, List.reverse_cons, List.reverse_nil, List.nil_append, List.cons_append, List.length_cons, List.length_nil, true_and, and_true, Nat.zero_le, Nat.reduceLeDiff, Nat.reduceAdd, Nat.reduceEqDiff, false_imp_iff, true_imp_iff, not_false_eq_true, not_true_eq_false, imp_self, forall_const, b01_0]
        refine ⟨fun c1 => ?_, fun c1 => ?_⟩
        · refine back u ch (hI.P (fun x b cc hx hb hta htb hcc q => ?_))
          by_cases r : x = a ∧ b = j
          · obtain ⟨rfl, rfl⟩ := r
            have := (hbd b hb).mpr ⟨hta, htb, cc, hcc⟩
            rw [c1] at this
            cases this
          · omega
        · have c2 : bt bd j = true := by simpa using c1
          obtain ⟨hta, htj, cc, hcc⟩ := (hbd j hj).mp c2
          have e1 := hlim cc hcc
          obtain ⟨h1, h2, h3, h4, h5, h6⟩ := hI
          have hjj := h2 j hj
          have hcc0 := hc0 a j cc hcc
          refine st_X3_raiseOnce_102 ?_; simp only [bX3_raiseOnce_102, exP, stP, p1, p2, pr, pobj, parr, sh0, sh1, sh2, sh3, sh4, sh5, sh6, sh7, sh8, sh9, sh10, sh11, sh12, sh13, sh14, sh15, sh16, sh17, sh18, sh19, sh20, sh21, sh22, sh23, sh24, sh25, sh26, sh27, sh28, sh29, sh30, sh31, sh32, sh33, sh34, sh35, sh36, sh37, sh38, sh39, sh40, sh41, sh42, sh43, sh44, sh45, sh46, sh47, sh48, sh49, sh50, sh51, sh52, sh53, sh54, sh55, sh56, sh57, sh58, sh59, brP, brN, swP, amask, apush, List.getElem?_cons_zero, List.getElem?_cons_succ, List.set_cons_zero, List.set_cons_succ, List.take_succ_cons, List.take_zero, List.drop_succ_cons, List.drop_zero, List.reverse_cons, List.reverse_nil, List.nil_append, List.cons_append, List.length_cons, List.length_nil, true_and, and_true, Nat.zero_le, Nat.reduceLeDiff, Nat.reduceAdd, Nat.reduceEqDiff, false_imp_iff, true_imp_iff, not_false_eq_true, not_true_eq_false, imp_self, forall_const, va, ca]
          refine ⟨fun c3 => ?_, fun c3 => ?_⟩
          · rw [Int32.le_iff_toInt_le] at c3
            refine back u ch ⟨h1, h2, fun x b c' hx hb hp hxt hbt hc' => ?_, h4, h5, h6⟩
            by_cases r : x = a ∧ b = j
            · obtain ⟨rfl, rfl⟩ := r
              rw [hcc] at hc'
              cases hc'
              omega
            · exact h3 x b c' hx hb (by omega) hxt hbt hc'
          · rw [Int32.le_iff_toInt_le] at c3
            refine st_X3_raiseOnce_113 ?_; simp only [bX3_raiseOnce_113, exP, stP, p1, p2, pr, pobj, parr, sh0, sh1, sh2, sh3, sh4, sh5, sh6, sh7, sh8, sh9, sh10, sh11, sh12, sh13, sh14, sh15, sh16, sh17, sh18, sh19, sh20, sh21, sh22, sh23, sh24, sh25, sh26, sh27, sh28, sh29, sh30, sh31, sh32, sh33, sh34, sh35, sh36, sh37, sh38, sh39, sh40, sh41, sh42, sh43, sh44, sh45, sh46, sh47, sh48, sh49, sh50, sh51, sh52, sh53, sh54, sh55, sh56, sh57, sh58, sh59, brP, brN, swP, amask, apush, List.getElem?_cons_zero, List.getElem?_cons_succ, List.set_cons_zero, List.set_cons_succ, List.take_succ_cons, List.take_zero, List.drop_succ_cons, List.drop_zero, List.reverse_cons, List.reverse_nil, List.nil_append, List.cons_append, List.length_cons, List.length_nil, true_and, and_true, Nat.zero_le, Nat.reduceLeDiff, Nat.reduceAdd, Nat.reduceEqDiff, false_imp_iff, true_imp_iff, not_false_eq_true, not_true_eq_false, imp_self, forall_const, va, ca]
            have haa := h2 a ha
            refine back _ true ⟨fun k hk => ?_, fun b hb => ?_, fun x b c' hx hb hp hxt hbt hc' => ?_, fun y hy hyc b hb htb => ?_, fun q => absurd q (by decide), fun _ => ⟨a, ha, hta, ?_⟩⟩
            · rw [aup_ne hk]; exact h1 k hk
            · rw [aup_eq]
              by_cases r : b = a
              · subst r; rw [upd_eq]; omega
              · rw [upd_ne r]; exact h2 b hb
            · rw [aup_eq]
              by_cases r : x = a
              · subst r
                rw [upd_eq]
                by_cases s : b = j
                · subst s
                  rw [hcc] at hc'
                  cases hc'
                  omega
                · have := h3 x b c' hx hb (by omega) hxt hbt hc'
                  omega
              · rw [upd_ne r]
                exact h3 x b c' hx hb (by omega) hxt hbt hc'
            · rw [aup_eq]
              by_cases r : b = a
              · subst r
                rw [upd_eq]
                have := h4 y hy hyc j hj htj
                have := hyc b j cc hb hj htb htj hcc
                omega
              · rw [upd_ne r]; exact h4 y hy hyc b hb htb
            · rw [aup_eq, upd_eq]; omega
      have u19 : u 19 = m 19 := hI.1 19 (by omega)
      have u15 : u 15 = m 15 := hI.1 15 (by omega)
      refine st_X3_raiseOnce_54 ?_; simp only [bX3_raiseOnce_54, exP, stP, p1, p2, pr, pobj, parr, sh0, sh1, sh2, sh3, sh4, sh5, sh6, sh7, sh8, sh9, sh10, sh11, sh12, sh13, sh14, sh15, sh16, sh17, sh18, sh19, sh20, sh21, sh22, sh23, sh24, sh25, sh26, sh27, sh28, sh29, sh30, sh31, sh32, sh33, sh34, sh35, sh36, sh37, sh38, sh39, sh40, sh41, sh42, sh43, sh44, sh45, sh46, sh47, sh48, sh49, sh50, sh51, sh52, sh53, sh54, sh55, sh56, sh57, sh58, sh59, brP, brN, swP, amask, apush, List.getElem?_cons_zero, List.getElem?_cons_succ, List.set_cons_zero, List.set_cons_succ, List.take_succ_cons, List.take_zero, List.drop_succ_cons, List.drop_zero, List.reverse_cons, List.reverse_nil, List.nil_append, List.cons_append, List.length_cons, List.length_nil, true_and, and_true, Nat.zero_le, Nat.reduceLeDiff, Nat.reduceAdd, Nat.reduceEqDiff, false_imp_iff, true_imp_iff, not_false_eq_true, not_true_eq_false, imp_self, forall_const, va, ca]
      refine ⟨_, ⟨0, by decide, c_holds _ _ j (by omega)⟩, ?_⟩; rintro _ _ ⟨rfl, rfl⟩; simp only [exP, stP, p1, p2, pr, pobj, parr, sh0, sh1, sh2, sh3, sh4, sh5, sh6, sh7, sh8, sh9, sh10, sh11, sh12, sh13, sh14, sh15, sh16, sh17, sh18, sh19, sh20, sh21, sh22, sh23, sh24, sh25, sh26, sh27, sh28, sh29, sh30, sh31, sh32, sh33, sh34, sh35, sh36, sh37, sh38, sh39, sh40, sh41, sh42, sh43, sh44, sh45, sh46, sh47, sh48, sh49, sh50, sh51, sh52, sh53, sh54, sh55, sh56, sh57, sh58, sh59, brP, brN, swP, amask, apush, List.getElem?_cons_zero, List.getElem?_cons_succ, List.set_cons_zero, List.set_cons_succ, List.take_succ_cons, List.take_zero, List.drop_succ_cons, List.drop_zero, List.reverse_cons, List.reverse_nil, List.nil_append, List.cons_append, List.length_cons, List.length_nil, true_and, and_true, Nat.zero_le, Nat.reduceLeDiff, Nat.reduceAdd, Nat.reduceEqDiff, false_imp_iff, true_imp_iff, not_false_eq_true, not_true_eq_false, imp_self, forall_const, b01_0]
      refine ⟨fun c1 => ?_, fun c1 => ?_⟩
      · refine st_X3_raiseOnce_78 ?_; simp only [bX3_raiseOnce_78, exP, stP, p1, p2, pr, pobj, parr, sh0, sh1, sh2, sh3, sh4, sh5, sh6, sh7, sh8, sh9, sh10, sh11, sh12, sh13, sh14, sh15, sh16, sh17, sh18, sh19, sh20, sh21, sh22, sh23, sh24, sh25, sh26, sh27, sh28, sh29, sh30, sh31, sh32, sh33, sh34, sh35, sh36, sh37, sh38, sh39, sh40, sh41, sh42, sh43, sh44, sh45, sh46, sh47, sh48, sh49, sh50, sh51, sh52, sh53, sh54, sh55, sh56, sh57, sh58, sh59, brP, brN, swP, amask, apush, List.getElem?_cons_zero, List.getElem?_cons_succ, List.set_cons_zero, List.set_cons_succ, List.take_succ_cons, List.take_zero, List.drop_succ_cons, List.drop_zero, List.reverse_cons, List.reverse_nil, List.nil_append, List.cons_append, List.length_cons, List.length_nil, true_and, and_true, Nat.zero_le, Nat.reduceLeDiff, Nat.reduceAdd, Nat.reduceEqDiff, false_imp_iff, true_imp_iff, not_false_eq_true, not_true_eq_false, imp_self, forall_const, vj, cj]
        refine fin _ (fun cc hcc => ?_)
        rw [u19] at c1
        unfold nC at hcc
        rw [c1] at hcc
        simp only [Bool.false_eq_true, if_false] at hcc
        split at hcc
        · cases hcc
          have := hX j hj
          have := hI.2.1 j hj
          have := hm.2
          rw [u15, i32_sub (by omega) (by omega)]
        · cases hcc
      · refine st_X3_raiseOnce_68 ?_; simp only [bX3_raiseOnce_68, exP, stP, p1, p2, pr, pobj, parr, sh0, sh1, sh2, sh3, sh4, sh5, sh6, sh7, sh8, sh9, sh10, sh11, sh12, sh13, sh14, sh15, sh16, sh17, sh18, sh19, sh20, sh21, sh22, sh23, sh24, sh25, sh26, sh27, sh28, sh29, sh30, sh31, sh32, sh33, sh34, sh35, sh36, sh37, sh38, sh39, sh40, sh41, sh42, sh43, sh44, sh45, sh46, sh47, sh48, sh49, sh50, sh51, sh52, sh53, sh54, sh55, sh56, sh57, sh58, sh59, brP, brN, swP, amask, apush, List.getElem?_cons_zero, List.getElem?_cons_succ, List.set_cons_zero, List.set_cons_succ, List.take_succ_cons, List.take_zero, List.drop_succ_cons, List.drop_zero, List.reverse_cons, List.reverse_nil, List.nil_append, List.cons_append, List.length_cons, List.length_nil, true_and, and_true, Nat.zero_le, Nat.reduceLeDiff, Nat.reduceAdd, Nat.reduceEqDiff, false_imp_iff, true_imp_iff, not_false_eq_true, not_true_eq_false, imp_self, forall_const, vj, cj]
        refine fin _ (fun cc hcc => ?_)
        rw [u19] at c1
        have c2 : bt (m 19 a) j = true := by simpa using c1
        unfold nC at hcc
        rw [if_pos c2] at hcc
        cases hcc
        omega
theorem w_up_out (m : AM) (hm : TW m) (hX : ∀ b, b < 12 → 0 ≤ (m 20 b).toInt ∧ (m 20 b).toInt ≤ 3000) (t : Nat) (ht : t < 4096) : ∀ (n a : Nat) (u : AM) (ch : Bool), a + n = 12 → UI m t u ch (fun x _ => x < a) → AW 1 kX3_raiseOnce (UQ m t) 4 [some (.inr 15), some (.inl (nI t)), some (.inl (b01 ch)), some (.inl (nI a)), none, none, none] [] u
  | 0, a, u, ch, h, hI => by
    obtain rfl : a = 12 := by omega
    refine st_X3_raiseOnce_4 ?_; simp only [bX3_raiseOnce_4, exP, stP, p1, p2, pr, pobj, parr, sh0, sh1, sh2, sh3, sh4, sh5, sh6, sh7, sh8, sh9, sh10, sh11, sh12, sh13, sh14, sh15, sh16, sh17, sh18, sh19, sh20, sh21, sh22, sh23, sh24, sh25, sh26, sh27, sh28, sh29, sh30, sh31, sh32, sh33, sh34, sh35, sh36, sh37, sh38, sh39, sh40, sh41, sh42, sh43, sh44, sh45, sh46, sh47, sh48, sh49, sh50, sh51, sh52, sh53, sh54, sh55, sh56, sh57, sh58, sh59, brP, brN, swP, amask, apush, List.getElem?_cons_zero, List.getElem?_cons_succ, List.set_cons_zero, List.set_cons_succ, List.take_succ_cons, List.take_zero, List.drop_succ_cons, List.drop_zero, List.reverse_cons, List.reverse_nil, List.nil_append, List.cons_append, List.length_cons, List.length_nil, true_and, and_true, Nat.zero_le, Nat.reduceLeDiff, Nat.reduceAdd, Nat.reduceEqDiff, false_imp_iff, true_imp_iff, not_false_eq_true, not_true_eq_false, imp_self, forall_const, lit_le (k := 12) (n := 12) (by omega) (by omega)]
    refine st_X3_raiseOnce_135 ?_; simp only [bX3_raiseOnce_135, exP, stP, p1, p2, pr, pobj, parr, sh0, sh1, sh2, sh3, sh4, sh5, sh6, sh7, sh8, sh9, sh10, sh11, sh12, sh13, sh14, sh15, sh16, sh17, sh18, sh19, sh20, sh21, sh22, sh23, sh24, sh25, sh26, sh27, sh28, sh29, sh30, sh31, sh32, sh33, sh34, sh35, sh36, sh37, sh38, sh39, sh40, sh41, sh42, sh43, sh44, sh45, sh46, sh47, sh48, sh49, sh50, sh51, sh52, sh53, sh54, sh55, sh56, sh57, sh58, sh59, brP, brN, swP, amask, apush, List.getElem?_cons_zero, List.getElem?_cons_succ, List.set_cons_zero, List.set_cons_succ, List.take_succ_cons, List.take_zero, List.drop_succ_cons, List.drop_zero, List.reverse_cons, List.reverse_nil, List.nil_append, List.cons_append, List.length_cons, List.length_nil, true_and, and_true, Nat.zero_le, Nat.reduceLeDiff, Nat.reduceAdd, Nat.reduceEqDiff, false_imp_iff, true_imp_iff, not_false_eq_true, not_true_eq_false, imp_self, forall_const]
    exact ⟨Or.inr (b01_01 ch), ch, rfl, hI.P (fun a b c ha _ _ _ _ _ => ha)⟩
  | n + 1, a, u, ch, h, hI => by
    have ha : a < 12 := by omega
    have va := eq_true (vp_in_nI (show a < 12 by omega) (show 12 < 2 ^ 31 by omega))
    have ca := nI_clamp (show a < 2 ^ 31 by omega)
    have next : ∀ u ch, UI m t u ch (fun x _ => x < a + 1) → AW 1 kX3_raiseOnce (UQ m t) 129 [some (.inr 15), some (.inl (nI t)), some (.inl (b01 ch)), some (.inl (nI a)), none, none, none] [] u := by
      intro u ch hI
      refine st_X3_raiseOnce_129 ?_; simp only [bX3_raiseOnce_129, exP, stP, p1, p2, pr, pobj, parr, sh0, sh1, sh2, sh3, sh4, sh5, sh6, sh7, sh8, sh9, sh10, sh11, sh12, sh13, sh14, sh15, sh16, sh17, sh18, sh19, sh20, sh21, sh22, sh23, sh24, sh25, sh26, sh27, sh28, sh29, sh30, sh31, sh32, sh33, sh34, sh35, sh36, sh37, sh38, sh39, sh40, sh41, sh42, sh43, sh44, sh45, sh46, sh47, sh48, sh49, sh50, sh51, sh52, sh53, sh54, sh55, sh56, sh57, sh58, sh59, brP, brN, swP, amask, apush, List.getElem?_cons_zero, List.getElem?_cons_succ, List.set_cons_zero, List.set_cons_succ, List.take_succ_cons, List.take_zero, List.drop_succ_cons, List.drop_zero, List.reverse_cons, List.reverse_nil, List.nil_append, List.cons_append, List.length_cons, List.length_nil, true_and, and_true, Nat.zero_le, Nat.reduceLeDiff, Nat.reduceAdd, Nat.reduceEqDiff, false_imp_iff, true_imp_iff, not_false_eq_true, not_true_eq_false, imp_self, forall_const]
      rw [nI_1]
      exact w_up_out m hm hX t ht n (a + 1) u ch (by omega) hI
    have inner : ∀ bd : Int32, (∀ b, b < 12 → (bt bd b = true ↔ (t.testBit a = true ∧ t.testBit b = true ∧ ∃ c, nC m a b = some c))) → AW 1 kX3_raiseOnce (UQ m t) 37 [some (.inr 15), some (.inl (nI t)), some (.inl (b01 ch)), some (.inl (nI a)), none, none, none] [.inl bd] u := by
      intro bd hbd
      refine st_X3_raiseOnce_37 ?_; simp only [bX3_raiseOnce_37, exP, stP, p1, p2, pr, pobj, parr, sh0, sh1, sh2, sh3, sh4, sh5, sh6, sh7, sh8, sh9, sh10, sh11, sh12, sh13, sh14, sh15, sh16, sh17, sh18, sh19, sh20, sh21, sh22, sh23, sh24, sh25, sh26, sh27, sh28, sh29, sh30, sh31, sh32, sh33, sh34, sh35, sh36, sh37, sh38, sh39, sh40, sh41, sh42, sh43, sh44, sh45, sh46, sh47, sh48, sh49, sh50, sh51, sh52, sh53, sh54, sh55, sh56, sh57, sh58, sh59, brP, brN, swP, amask, apush, List.getElem?_cons_zero, List.getElem?_cons_succ, List.set_cons_zero, List.set_cons_succ, List.take_succ_cons, List.take_zero, List.drop_succ_cons, List.drop_zero, List.reverse_cons, List.reverse_nil, List.nil_append, List.cons_append, List.length_cons, List.length_nil, true_and, and_true, Nat.zero_le, Nat.reduceLeDiff, Nat.reduceAdd, Nat.reduceEqDiff, false_imp_iff, true_imp_iff, not_false_eq_true, not_true_eq_false, imp_self, forall_const]
      exact w_up_in m hm hX t a ht ha bd hbd next 12 0 u ch rfl (hI.P (fun x b c _ _ _ _ _ q => by omega))
    have u19 : u 19 = m 19 := hI.1 19 (by omega)
    have u18 : u 18 = m 18 := hI.1 18 (by omega)
    refine st_X3_raiseOnce_4 ?_; simp only [bX3_raiseOnce_4, exP, stP, p1, p2, pr, pobj, parr, sh0, sh1, sh2, sh3, sh4, sh5, sh6, sh7, sh8, sh9, sh10, sh11, sh12, sh13, sh14, sh15, sh16, sh17, sh18, sh19, sh20, sh21, sh22, sh23, sh24, sh25, sh26, sh27, sh28, sh29, sh30, sh31, sh32, sh33, sh34, sh35, sh36, sh37, sh38, sh39, sh40, sh41, sh42, sh43, sh44, sh45, sh46, sh47, sh48, sh49, sh50, sh51, sh52, sh53, sh54, sh55, sh56, sh57, sh58, sh59, brP, brN, swP, amask, apush, List.getElem?_cons_zero, List.getElem?_cons_succ, List.set_cons_zero, List.set_cons_succ, List.take_succ_cons, List.take_zero, List.drop_succ_cons, List.drop_zero, List.reverse_cons, List.reverse_nil, List.nil_append, List.cons_append, List.length_cons, List.length_nil, true_and, and_true, Nat.zero_le, Nat.reduceLeDiff, Nat.reduceAdd, Nat.reduceEqDiff, false_imp_iff, true_imp_iff, not_false_eq_true, not_true_eq_false, imp_self, forall_const, lit_nle (k := 12) (n := a) ha (by omega)]
    refine st_X3_raiseOnce_10 ?_; simp only [bX3_raiseOnce_10, exP, stP, p1, p2, pr, pobj, parr, sh0, sh1, sh2, sh3, sh4, sh5, sh6, sh7, sh8, sh9, sh10, sh11, sh12, sh13, sh14, sh15, sh16, sh17, sh18, sh19, sh20, sh21, sh22, sh23, sh24, sh25, sh26, sh27, sh28, sh29, sh30, sh31, sh32, sh33, sh34, sh35, sh36, sh37, sh38, sh39, sh40, sh41, sh42, sh43, sh44, sh45, sh46, sh47, sh48, sh49, sh50, sh51, sh52, sh53, sh54, sh55, sh56, sh57, sh58, sh59, brP, brN, swP, amask, apush, List.getElem?_cons_zero, List.getElem?_cons_succ, List.set_cons_zero, List.set_cons_succ, List.take_succ_cons, List.take_zero, List.drop_succ_cons, List.drop_zero, List.reverse_cons, List.reverse_nil, List.nil_append, List.cons_append, List.length_cons, List.length_nil, true_and, and_true, Nat.zero_le, Nat.reduceLeDiff, Nat.reduceAdd, Nat.reduceEqDiff, false_imp_iff, true_imp_iff, not_false_eq_true, not_true_eq_false, imp_self, forall_const]
    refine ⟨_, ⟨0, by decide, c_holds _ _ a (by omega)⟩, ?_⟩; rintro _ _ ⟨rfl, rfl⟩; simp only [exP, stP, p1, p2, pr, pobj, parr, sh0, sh1, sh2, sh3, sh4, sh5, sh6, sh7, sh8, sh9, sh10, sh11, sh12, sh13, sh14, sh15, sh16, sh17, sh18, sh19, sh20, sh21, sh22, sh23, sh24, sh25, sh26, sh27, sh28, sh29, sh30, sh31, sh32, sh33, sh34, sh35, sh36, sh37, sh38, sh39, sh40, sh41, sh42, sh43, sh44, sh45, sh46, sh47, sh48, sh49, sh50, sh51, sh52, sh53, sh54, sh55, sh56, sh57, sh58, sh59, brP, brN, swP, amask, apush, List.getElem?_cons_zero, List.getElem?_cons_succ, List.set_cons_zero, List.set_cons_succ, List.take_succ_cons, List.take_zero, List.drop_succ_cons, List.drop_zero, List.reverse_cons, List.reverse_nil, List.nil_append, List.cons_append, List.length_cons, List.length_nil, true_and, and_true, Nat.zero_le, Nat.reduceLeDiff, Nat.reduceAdd, Nat.reduceEqDiff, false_imp_iff, true_imp_iff, not_false_eq_true, not_true_eq_false, imp_self, forall_const, b01_0, bt_nI (show t < 4294967296 by omega)]
    refine ⟨fun c => ?_, fun c => ?_⟩
    · refine st_X3_raiseOnce_36 ?_; simp only [bX3_raiseOnce_36, exP, stP, p1, p2, pr, pobj, parr, sh0, sh1, sh2, sh3, sh4, sh5, sh6, sh7, sh8, sh9, sh10, sh11, sh12, sh13, sh14, sh15, sh16, sh17, sh18, sh19, sh20, sh21, sh22, sh23, sh24, sh25, sh26, sh27, sh28, sh29, sh30, sh31, sh32, sh33, sh34, sh35, sh36, sh37, sh38, sh39, sh40, sh41, sh42, sh43, sh44, sh45, sh46, sh47, sh48, sh49, sh50, sh51, sh52, sh53, sh54, sh55, sh56, sh57, sh58, sh59, brP, brN, swP, amask, apush, List.getElem?_cons_zero, List.getElem?_cons_succ, List.set_cons_zero, List.set_cons_succ, List.take_succ_cons, List.take_zero, List.drop_succ_cons, List.drop_zero, List.reverse_cons, List.reverse_nil, List.nil_append, List.cons_append, List.length_cons, List.length_nil, true_and, and_true, Nat.zero_le, Nat.reduceLeDiff, Nat.reduceAdd, Nat.reduceEqDiff, false_imp_iff, true_imp_iff, not_false_eq_true, not_true_eq_false, imp_self, forall_const]
      refine inner 0 (fun b hb => ?_)
      rw [b_0]
      simp [c]
    · have c2 : t.testBit a = true := by simpa using c
      refine st_X3_raiseOnce_18 ?_; simp only [bX3_raiseOnce_18, exP, stP, p1, p2, pr, pobj, parr, sh0, sh1, sh2, sh3, sh4, sh5, sh6, sh7, sh8, sh9, sh10, sh11, sh12, sh13, sh14, sh15, sh16, sh17, sh18, sh19, sh20, sh21, sh22, sh23, sh24, sh25, sh26, sh27, sh28, sh29, sh30, sh31, sh32, sh33, sh34, sh35, sh36, sh37, sh38, sh39, sh40, sh41, sh42, sh43, sh44, sh45, sh46, sh47, sh48, sh49, sh50, sh51, sh52, sh53, sh54, sh55, sh56, sh57, sh58, sh59, brP, brN, swP, amask, apush, List.getElem?_cons_zero, List.getElem?_cons_succ, List.set_cons_zero, List.set_cons_succ, List.take_succ_cons, List.take_zero, List.drop_succ_cons, List.drop_zero, List.reverse_cons, List.reverse_nil, List.nil_append, List.cons_append, List.length_cons, List.length_nil, true_and, and_true, Nat.zero_le, Nat.reduceLeDiff, Nat.reduceAdd, Nat.reduceEqDiff, false_imp_iff, true_imp_iff, not_false_eq_true, not_true_eq_false, imp_self, forall_const, va, ca]
      refine inner _ (fun b hb => ?_)
      rw [b_and, b_or, bt_nI (by omega), u19, u18]
      unfold nC
      rw [c2]
      cases bt (m 19 a) b <;> cases bt (m 18 a) b <;> simp
theorem c_raiseOnce (m : AM) (hm : TW m) (hX : ∀ b, b < 12 → 0 ≤ (m 20 b).toInt ∧ (m 20 b).toInt ≤ 3000) (t : Nat) (ht : t < 4096) : AC 1 kX3_raiseOnce [.inr 15, .inl (nI t)] m (UQ m t) := by
  refine AC_of own_X3_raiseOnce (ls := [some (.inr 15), some (.inl (nI t)), none, none, none, none, none]) (z := 5) (Nat.le_of_ble_eq_true rfl) rfl ?_
  refine st_X3_raiseOnce_0 ?_; simp only [bX3_raiseOnce_0, exP, stP, p1, p2, pr, pobj, parr, sh0, sh1, sh2, sh3, sh4, sh5, sh6, sh7, sh8, sh9, sh10, sh11, sh12, sh13, sh14, sh15, sh16, sh17, sh18, sh19, sh20, sh21, sh22, sh23, sh24, sh25, sh26, sh27, sh28, sh29, sh30, sh31, sh32, sh33, sh34, sh35, sh36, sh37, sh38, sh39, sh40, sh41, sh42, sh43, sh44, sh45, sh46, sh47, sh48, sh49, sh50, sh51, sh52, sh53, sh54, sh55, sh56, sh57, sh58, sh59, brP, brN, swP, amask, apush, List.getElem?_cons_zero, List.getElem?_cons_succ, List.set_cons_zero, List.set_cons_succ, List.take_succ_cons, List.take_zero, List.drop_succ_cons, List.drop_zero, List.reverse_cons, List.reverse_nil, List.nil_append, List.cons_append, List.length_cons, List.length_nil, true_and, and_true, Nat.zero_le, Nat.reduceLeDiff, Nat.reduceAdd, Nat.reduceEqDiff, false_imp_iff, true_imp_iff, not_false_eq_true, not_true_eq_false, imp_self, forall_const]
  exact w_up_out m hm hX t ht 12 0 m false rfl ⟨fun k hk => rfl, fun b hb => ⟨Int.le_refl _, (hX b hb).2⟩, fun a b c _ _ q => by omega, fun y hy _ b hb htb => hy b hb htb, fun _ _ _ => rfl, fun q => by cases q⟩
/-- after a raising: the dual's next round is reached -/
theorem UI.dual {m : AM} {t : Nat} {u : AM} {ch : Bool} {k : Nat} {F : Nat → Int} (h : UI m t u ch (fun _ _ => True)) (hk : ∀ b, b < 12 → t.testBit b = true → - (m 20 b).toInt ≤ lat (fun d => - F d) (dC (nC m)) t k b) : ∀ b, b < 12 → t.testBit b = true → - (u 20 b).toInt ≤ lat (fun d => - F d) (dC (nC m)) t (k + 1) b := by
  intro b hb htb
  obtain ⟨h1, h2, h3, -⟩ := h
  show _ ≤ jmin (dC (nC m)) t (lat (fun d => - F d) (dC (nC m)) t k) b 12
  rcases jmin_or (cst := dC (nC m)) t (lat (fun d => - F d) (dC (nC m)) t k) b 12 with e | ⟨a, c, ha, hta, -, hc, e⟩
  · rw [e]
    have := hk b hb htb
    have := (h2 b hb).1
    omega
  · rw [e]
    have := hk a ha hta
    have := h3 b a c hb ha trivial htb hta hc
    omega
def KQ (m : AM) (t : Nat) : APost := fun z u => z = none ∧ (∀ j, j ≠ 15 → j ≠ 20 → j ≠ 21 → j ≠ 22 → j ≠ 23 → j ≠ 24 → u j = m j) ∧ (∀ j, j ≠ 10 → u 15 j = m 15 j) ∧ isM (nF m) (nC m) t (fun b => (u 20 b).toInt) ∧ (agr (nF m) (nL m) (nC m) t → isG (nL m) (nC m) t (fun b => (u 21 b).toInt))
theorem c_keepYears (m : AM) (hm : TW m) (t : Nat) (ht : t < 4096) : AC 3 kX3_keepYears [.inr 15, .inl (nI t)] m (KQ m t) := by
  refine AC_of own_X3_keepYears (ls := [some (.inr 15), some (.inl (nI t)), none]) (z := 1) (Nat.le_of_ble_eq_true rfl) rfl ?_
  have hc0 := TW_c hm
  have hd0 : ∀ a b c, dC (nC m) a b = some c → 0 ≤ c := fun a b c h => (hc0 b a c h).1
  -- the years over F
  have loop : ∀ (n k : Nat) (u : AM), k + n = 11 → (∀ j, j ≠ 15 → j ≠ 20 → j ≠ 21 → j ≠ 22 → j ≠ 23 → j ≠ 24 → u j = m j) → (∀ j, j ≠ 10 → u 15 j = m 15 j) → (agr (nF m) (nL m) (nC m) t → isG (nL m) (nC m) t (fun b => (u 21 b).toInt)) → (∀ b, b < 12 → 0 ≤ (u 20 b).toInt ∧ (u 20 b).toInt ≤ 3000 ∧ nF m b ≤ (u 20 b).toInt) → (∀ b, b < 12 → t.testBit b = true → - (u 20 b).toInt ≤ lat (fun d => - nF m d) (dC (nC m)) t k b) → (∀ y, (∀ b, b < 12 → t.testBit b = true → nF m b ≤ y b) → clo (nC m) t y → ∀ b, b < 12 → t.testBit b = true → (u 20 b).toInt ≤ y b) → AW 3 kX3_keepYears (KQ m t) 38 [some (.inr 15), some (.inl (nI t)), some (.inl (nI k))] [] u := by
    intro n
    induction n with
    | zero =>
      intro k u hk h1 h2 h3 h4 h5 h6
      obtain rfl : k = 11 := by omega
      have eC : nC u = nC m := by
        funext a b
        unfold nC
        rw [h1 19 (by omega) (by omega) (by omega) (by omega) (by omega) (by omega), h1 18 (by omega) (by omega) (by omega) (by omega) (by omega) (by omega), h2 9 (by omega)]
      have hmu : TW u := by
        unfold TW nF nL
        rw [h1 16 (by omega) (by omega) (by omega) (by omega) (by omega) (by omega), h1 17 (by omega) (by omega) (by omega) (by omega) (by omega) (by omega), h2 9 (by omega)]
        exact hm
      have hst : ∀ b, b < 12 → t.testBit b = true → lat (fun d => - nF m d) (dC (nC m)) t 12 b = lat (fun d => - nF m d) (dC (nC m)) t 11 b := fun b hb htb => lat_stable hd0 hb htb
      have hcl : clo (nC m) t (fun b => - lat (fun d => - nF m d) (dC (nC m)) t 11 b) := by
        intro a b c ha hb hta htb hc
        have h7 := lat_edge (L := fun d => - nF m d) (cst := dC (nC m)) (t := t) (k := 11) (a := b) (b := a) (c := c) hb htb hta hc
        have h8 := hst a ha hta
        have h9 : lat (fun d => - nF m d) (dC (nC m)) t (11 + 1) a = lat (fun d => - nF m d) (dC (nC m)) t 11 a := h8
        try dsimp only
        omega
      have heq : ∀ b, b < 12 → t.testBit b = true → (u 20 b).toInt = - lat (fun d => - nF m d) (dC (nC m)) t 11 b := by
        intro b hb htb
        have h7 := h5 b hb htb
        have h8 := h6 (fun b => - lat (fun d => - nF m d) (dC (nC m)) t 11 b) (fun b hb htb => by
          have := lat_dec (L := fun d => - nF m d) (cst := dC (nC m)) t b (Nat.zero_le 11)
          have e : lat (fun d => - nF m d) (dC (nC m)) t 0 b = - nF m b := rfl
          try dsimp only
          omega) hcl b hb htb
        try dsimp only at h8
        omega
      have hclu : clo (nC m) t (fun b => (u 20 b).toInt) := by
        intro a b c ha hb hta htb hc
        have := hcl a b c ha hb hta htb hc
        try dsimp only at this ⊢
        rw [heq a ha hta, heq b hb htb]
        exact this
      refine st_X3_keepYears_38 ?_; simp only [bX3_keepYears_38, exP, stP, p1, p2, pr, pobj, parr, sh0, sh1, sh2, sh3, sh4, sh5, sh6, sh7, sh8, sh9, sh10, sh11, sh12, sh13, sh14, sh15, sh16, sh17, sh18, sh19, sh20, sh21, sh22, sh23, sh24, sh25, sh26, sh27, sh28, sh29, sh30, sh31, sh32, sh33, sh34, sh35, sh36, sh37, sh38, sh39, sh40, sh41, sh42, sh43, sh44, sh45, sh46, sh47, sh48, sh49, sh50, sh51, sh52, sh53, sh54, sh55, sh56, sh57, sh58, sh59, brP, brN, swP, amask, apush, List.getElem?_cons_zero, List.getElem?_cons_succ, List.set_cons_zero, List.set_cons_succ, List.take_succ_cons, List.take_zero, List.drop_succ_cons, List.drop_zero, List.reverse_cons, List.reverse_nil, List.nil_append, List.cons_append, List.length_cons, List.length_nil, true_and, and_true, Nat.zero_le, Nat.reduceLeDiff, Nat.reduceAdd, Nat.reduceEqDiff, false_imp_iff, true_imp_iff, not_false_eq_true, not_true_eq_false, imp_self, forall_const, lit_nlt (k := 12) (n := 11) (by omega) (by omega)]
      refine st_X3_keepYears_44 ?_; simp only [bX3_keepYears_44, exP, stP, p1, p2, pr, pobj, parr, sh0, sh1, sh2, sh3, sh4, sh5, sh6, sh7, sh8, sh9, sh10, sh11, sh12, sh13, sh14, sh15, sh16, sh17, sh18, sh19, sh20, sh21, sh22, sh23, sh24, sh25, sh26, sh27, sh28, sh29, sh30, sh31, sh32, sh33, sh34, sh35, sh36, sh37, sh38, sh39, sh40, sh41, sh42, sh43, sh44, sh45, sh46, sh47, sh48, sh49, sh50, sh51, sh52, sh53, sh54, sh55, sh56, sh57, sh58, sh59, brP, brN, swP, amask, apush, List.getElem?_cons_zero, List.getElem?_cons_succ, List.set_cons_zero, List.set_cons_succ, List.take_succ_cons, List.take_zero, List.drop_succ_cons, List.drop_zero, List.reverse_cons, List.reverse_nil, List.nil_append, List.cons_append, List.length_cons, List.length_nil, true_and, and_true, Nat.zero_le, Nat.reduceLeDiff, Nat.reduceAdd, Nat.reduceEqDiff, false_imp_iff, true_imp_iff, not_false_eq_true, not_true_eq_false, imp_self, forall_const]
      refine ⟨_, ⟨1, by decide, c_raiseOnce u hmu (fun b hb => ⟨(h4 b hb).1, (h4 b hb).2.1⟩) t ht⟩, ?_⟩
      rintro z u' ⟨ch, rfl, hU⟩
      have hcf : ch = false := by
        cases ch with
        | false => rfl
        | true =>
          obtain ⟨b, hb, htb, hlt⟩ := hU.2.2.2.2.2 rfl
          have := hU.2.2.2.1 (fun b => (u 20 b).toInt) (fun b _ _ => Int.le_refl _) (by rw [eC]; exact hclu) b hb htb
          try dsimp only at this
          omega
      subst hcf
      simp only [exP, stP, p1, p2, pr, pobj, parr, sh0, sh1, sh2, sh3, sh4, sh5, sh6, sh7, sh8, sh9, sh10, sh11, sh12, sh13, sh14, sh15, sh16, sh17, sh18, sh19, sh20, sh21, sh22, sh23, sh24, sh25, sh26, sh27, sh28, sh29, sh30, sh31, sh32, sh33, sh34, sh35, sh36, sh37, sh38, sh39, sh40, sh41, sh42, sh43, sh44, sh45, sh46, sh47, sh48, sh49, sh50, sh51, sh52, sh53, sh54, sh55, sh56, sh57, sh58, sh59, brP, brN, swP, amask, apush, List.getElem?_cons_zero, List.getElem?_cons_succ, List.set_cons_zero, List.set_cons_succ, List.take_succ_cons, List.take_zero, List.drop_succ_cons, List.drop_zero, List.reverse_cons, List.reverse_nil, List.nil_append, List.cons_append, List.length_cons, List.length_nil, true_and, and_true, Nat.zero_le, Nat.reduceLeDiff, Nat.reduceAdd, Nat.reduceEqDiff, false_imp_iff, true_imp_iff, not_false_eq_true, not_true_eq_false, imp_self, forall_const, b01_0]
      refine st_X3_keepYears_52 ?_; simp only [bX3_keepYears_52, exP, stP, p1, p2, pr, pobj, parr, sh0, sh1, sh2, sh3, sh4, sh5, sh6, sh7, sh8, sh9, sh10, sh11, sh12, sh13, sh14, sh15, sh16, sh17, sh18, sh19, sh20, sh21, sh22, sh23, sh24, sh25, sh26, sh27, sh28, sh29, sh30, sh31, sh32, sh33, sh34, sh35, sh36, sh37, sh38, sh39, sh40, sh41, sh42, sh43, sh44, sh45, sh46, sh47, sh48, sh49, sh50, sh51, sh52, sh53, sh54, sh55, sh56, sh57, sh58, sh59, brP, brN, swP, amask, apush, List.getElem?_cons_zero, List.getElem?_cons_succ, List.set_cons_zero, List.set_cons_succ, List.take_succ_cons, List.take_zero, List.drop_succ_cons, List.drop_zero, List.reverse_cons, List.reverse_nil, List.nil_append, List.cons_append, List.length_cons, List.length_nil, true_and, and_true, Nat.zero_le, Nat.reduceLeDiff, Nat.reduceAdd, Nat.reduceEqDiff, false_imp_iff, true_imp_iff, not_false_eq_true, not_true_eq_false, imp_self, forall_const]
      refine st_X3_keepYears_61 ?_; simp only [bX3_keepYears_61, exP, stP, p1, p2, pr, pobj, parr, sh0, sh1, sh2, sh3, sh4, sh5, sh6, sh7, sh8, sh9, sh10, sh11, sh12, sh13, sh14, sh15, sh16, sh17, sh18, sh19, sh20, sh21, sh22, sh23, sh24, sh25, sh26, sh27, sh28, sh29, sh30, sh31, sh32, sh33, sh34, sh35, sh36, sh37, sh38, sh39, sh40, sh41, sh42, sh43, sh44, sh45, sh46, sh47, sh48, sh49, sh50, sh51, sh52, sh53, sh54, sh55, sh56, sh57, sh58, sh59, brP, brN, swP, amask, apush, List.getElem?_cons_zero, List.getElem?_cons_succ, List.set_cons_zero, List.set_cons_succ, List.take_succ_cons, List.take_zero, List.drop_succ_cons, List.drop_zero, List.reverse_cons, List.reverse_nil, List.nil_append, List.cons_append, List.length_cons, List.length_nil, true_and, and_true, Nat.zero_le, Nat.reduceLeDiff, Nat.reduceAdd, Nat.reduceEqDiff, false_imp_iff, true_imp_iff, not_false_eq_true, not_true_eq_false, imp_self, forall_const]
      have hsame := hU.2.2.2.2.1 rfl
      refine ⟨rfl, fun j j1 j2 j3 j4 j5 j6 => by rw [hU.1 j j2]; exact h1 j j1 j2 j3 j4 j5 j6, fun j hj => by rw [hU.1 15 (by omega)]; exact h2 j hj, ⟨fun b hb htb => ?_, fun a b c ha hb hta htb hc => ?_, fun y hy hyc b hb htb => ?_⟩, fun hag => ?_⟩
      · have := (h4 b hb).2.2
        have := hsame b hb
        try dsimp only
        omega
      · have := hclu a b c ha hb hta htb hc
        try dsimp only at this ⊢
        rw [hsame a ha, hsame b hb]
        exact this
      · have := h6 y hy hyc b hb htb
        try dsimp only
        rw [hsame b hb]
        exact this
      · have := h3 hag
        rw [hU.1 21 (by omega)]
        exact this
    | succ n ih =>
      intro k u hk h1 h2 h3 h4 h5 h6
      have eC : nC u = nC m := by
        funext a b
        unfold nC
        rw [h1 19 (by omega) (by omega) (by omega) (by omega) (by omega) (by omega), h1 18 (by omega) (by omega) (by omega) (by omega) (by omega) (by omega), h2 9 (by omega)]
      have hmu : TW u := by
        unfold TW nF nL
        rw [h1 16 (by omega) (by omega) (by omega) (by omega) (by omega) (by omega), h1 17 (by omega) (by omega) (by omega) (by omega) (by omega) (by omega), h2 9 (by omega)]
        exact hm
      refine st_X3_keepYears_38 ?_; simp only [bX3_keepYears_38, exP, stP, p1, p2, pr, pobj, parr, sh0, sh1, sh2, sh3, sh4, sh5, sh6, sh7, sh8, sh9, sh10, sh11, sh12, sh13, sh14, sh15, sh16, sh17, sh18, sh19, sh20, sh21, sh22, sh23, sh24, sh25, sh26, sh27, sh28, sh29, sh30, sh31, sh32, sh33, sh34, sh35, sh36, sh37, sh38, sh39, sh40, sh41, sh42, sh43, sh44, sh45, sh46, sh47, sh48, sh49, sh50, sh51, sh52, sh53, sh54, sh55, sh56, sh57, sh58, sh59, brP, brN, swP, amask, apush, List.getElem?_cons_zero, List.getElem?_cons_succ, List.set_cons_zero, List.set_cons_succ, List.take_succ_cons, List.take_zero, List.drop_succ_cons, List.drop_zero, List.reverse_cons, List.reverse_nil, List.nil_append, List.cons_append, List.length_cons, List.length_nil, true_and, and_true, Nat.zero_le, Nat.reduceLeDiff, Nat.reduceAdd, Nat.reduceEqDiff, false_imp_iff, true_imp_iff, not_false_eq_true, not_true_eq_false, imp_self, forall_const, lit_nlt (k := 12) (n := k) (by omega) (by omega)]
      refine st_X3_keepYears_44 ?_; simp only [bX3_keepYears_44, exP, stP, p1, p2, pr, pobj, parr, sh0, sh1, sh2, sh3, sh4, sh5, sh6, sh7, sh8, sh9, sh10, sh11, sh12, sh13, sh14, sh15, sh16, sh17, sh18, sh19, sh20, sh21, sh22, sh23, sh24, sh25, sh26, sh27, sh28, sh29, sh30, sh31, sh32, sh33, sh34, sh35, sh36, sh37, sh38, sh39, sh40, sh41, sh42, sh43, sh44, sh45, sh46, sh47, sh48, sh49, sh50, sh51, sh52, sh53, sh54, sh55, sh56, sh57, sh58, sh59, brP, brN, swP, amask, apush, List.getElem?_cons_zero, List.getElem?_cons_succ, List.set_cons_zero, List.set_cons_succ, List.take_succ_cons, List.take_zero, List.drop_succ_cons, List.drop_zero, List.reverse_cons, List.reverse_nil, List.nil_append, List.cons_append, List.length_cons, List.length_nil, true_and, and_true, Nat.zero_le, Nat.reduceLeDiff, Nat.reduceAdd, Nat.reduceEqDiff, false_imp_iff, true_imp_iff, not_false_eq_true, not_true_eq_false, imp_self, forall_const]
      refine ⟨_, ⟨1, by decide, c_raiseOnce u hmu (fun b hb => ⟨(h4 b hb).1, (h4 b hb).2.1⟩) t ht⟩, ?_⟩
      rintro z u' ⟨ch, rfl, hU⟩
      have f1 : ∀ j, j ≠ 15 → j ≠ 20 → j ≠ 21 → j ≠ 22 → j ≠ 23 → j ≠ 24 → u' j = m j := fun j j1 j2 j3 j4 j5 j6 => by rw [hU.1 j j2]; exact h1 j j1 j2 j3 j4 j5 j6
      have f2 : ∀ j, j ≠ 10 → u' 15 j = m 15 j := fun j hj => by rw [hU.1 15 (by omega)]; exact h2 j hj
      have f3 : agr (nF m) (nL m) (nC m) t → isG (nL m) (nC m) t (fun b => (u' 21 b).toInt) := fun hag => by
        rw [hU.1 21 (by omega)]; exact h3 hag
      have f6 : ∀ y, (∀ b, b < 12 → t.testBit b = true → nF m b ≤ y b) → clo (nC m) t y → ∀ b, b < 12 → t.testBit b = true → (u' 20 b).toInt ≤ y b := fun y hy hyc b hb htb => hU.2.2.2.1 y (fun b hb htb => h6 y hy hyc b hb htb) (by rw [eC]; exact hyc) b hb htb
      have f4 : ∀ b, b < 12 → 0 ≤ (u' 20 b).toInt ∧ (u' 20 b).toInt ≤ 3000 ∧ nF m b ≤ (u' 20 b).toInt := fun b hb => by
        have a1 := hU.2.1 b hb
        have a2 := h4 b hb
        omega
      simp only [exP, stP, p1, p2, pr, pobj, parr, sh0, sh1, sh2, sh3, sh4, sh5, sh6, sh7, sh8, sh9, sh10, sh11, sh12, sh13, sh14, sh15, sh16, sh17, sh18, sh19, sh20, sh21, sh22, sh23, sh24, sh25, sh26, sh27, sh28, sh29, sh30, sh31, sh32, sh33, sh34, sh35, sh36, sh37, sh38, sh39, sh40, sh41, sh42, sh43, sh44, sh45, sh46, sh47, sh48, sh49, sh50, sh51, sh52, sh53, sh54, sh55, sh56, sh57, sh58, sh59, brP, brN, swP, amask, apush, List.getElem?_cons_zero, List.getElem?_cons_succ, List.set_cons_zero, List.set_cons_succ, List.take_succ_cons, List.take_zero, List.drop_succ_cons, List.drop_zero, List.reverse_cons, List.reverse_nil, List.nil_append, List.cons_append, List.length_cons, List.length_nil, true_and, and_true, Nat.zero_le, Nat.reduceLeDiff, Nat.reduceAdd, Nat.reduceEqDiff, false_imp_iff, true_imp_iff, not_false_eq_true, not_true_eq_false, imp_self, forall_const, b01_0]
      refine ⟨fun c => ?_, fun c => ?_⟩
      · refine st_X3_keepYears_55 ?_; simp only [bX3_keepYears_55, exP, stP, p1, p2, pr, pobj, parr, sh0, sh1, sh2, sh3, sh4, sh5, sh6, sh7, sh8, sh9, sh10, sh11, sh12, sh13, sh14, sh15, sh16, sh17, sh18, sh19, sh20, sh21, sh22, sh23, sh24, sh25, sh26, sh27, sh28, sh29, sh30, sh31, sh32, sh33, sh34, sh35, sh36, sh37, sh38, sh39, sh40, sh41, sh42, sh43, sh44, sh45, sh46, sh47, sh48, sh49, sh50, sh51, sh52, sh53, sh54, sh55, sh56, sh57, sh58, sh59, brP, brN, swP, amask, apush, List.getElem?_cons_zero, List.getElem?_cons_succ, List.set_cons_zero, List.set_cons_succ, List.take_succ_cons, List.take_zero, List.drop_succ_cons, List.drop_zero, List.reverse_cons, List.reverse_nil, List.nil_append, List.cons_append, List.length_cons, List.length_nil, true_and, and_true, Nat.zero_le, Nat.reduceLeDiff, Nat.reduceAdd, Nat.reduceEqDiff, false_imp_iff, true_imp_iff, not_false_eq_true, not_true_eq_false, imp_self, forall_const]
        rw [nI_1]
        refine ih (k + 1) u' (by omega) f1 f2 f3 f4 ?_ f6
        have := UI.dual (F := nF m) (k := k) hU (by rw [eC]; exact h5)
        rw [eC] at this
        exact this
      · refine st_X3_keepYears_52 ?_; simp only [bX3_keepYears_52, exP, stP, p1, p2, pr, pobj, parr, sh0, sh1, sh2, sh3, sh4, sh5, sh6, sh7, sh8, sh9, sh10, sh11, sh12, sh13, sh14, sh15, sh16, sh17, sh18, sh19, sh20, sh21, sh22, sh23, sh24, sh25, sh26, sh27, sh28, sh29, sh30, sh31, sh32, sh33, sh34, sh35, sh36, sh37, sh38, sh39, sh40, sh41, sh42, sh43, sh44, sh45, sh46, sh47, sh48, sh49, sh50, sh51, sh52, sh53, sh54, sh55, sh56, sh57, sh58, sh59, brP, brN, swP, amask, apush, List.getElem?_cons_zero, List.getElem?_cons_succ, List.set_cons_zero, List.set_cons_succ, List.take_succ_cons, List.take_zero, List.drop_succ_cons, List.drop_zero, List.reverse_cons, List.reverse_nil, List.nil_append, List.cons_append, List.length_cons, List.length_nil, true_and, and_true, Nat.zero_le, Nat.reduceLeDiff, Nat.reduceAdd, Nat.reduceEqDiff, false_imp_iff, true_imp_iff, not_false_eq_true, not_true_eq_false, imp_self, forall_const]
        refine st_X3_keepYears_61 ?_; simp only [bX3_keepYears_61, exP, stP, p1, p2, pr, pobj, parr, sh0, sh1, sh2, sh3, sh4, sh5, sh6, sh7, sh8, sh9, sh10, sh11, sh12, sh13, sh14, sh15, sh16, sh17, sh18, sh19, sh20, sh21, sh22, sh23, sh24, sh25, sh26, sh27, sh28, sh29, sh30, sh31, sh32, sh33, sh34, sh35, sh36, sh37, sh38, sh39, sh40, sh41, sh42, sh43, sh44, sh45, sh46, sh47, sh48, sh49, sh50, sh51, sh52, sh53, sh54, sh55, sh56, sh57, sh58, sh59, brP, brN, swP, amask, apush, List.getElem?_cons_zero, List.getElem?_cons_succ, List.set_cons_zero, List.set_cons_succ, List.take_succ_cons, List.take_zero, List.drop_succ_cons, List.drop_zero, List.reverse_cons, List.reverse_nil, List.nil_append, List.cons_append, List.length_cons, List.length_nil, true_and, and_true, Nat.zero_le, Nat.reduceLeDiff, Nat.reduceAdd, Nat.reduceEqDiff, false_imp_iff, true_imp_iff, not_false_eq_true, not_true_eq_false, imp_self, forall_const]
        have hsame := hU.2.2.2.2.1 c
        refine ⟨rfl, f1, f2, ⟨fun b hb htb => (f4 b hb).2.2, fun a b cc ha hb hta htb hc => ?_, f6⟩, f3⟩
        have := hU.2.2.1 a b cc ha hb trivial hta htb (by rw [eC]; exact hc)
        have := hsame b hb
        try dsimp only
        omega
  refine st_X3_keepYears_0 ?_; simp only [bX3_keepYears_0, exP, stP, p1, p2, pr, pobj, parr, sh0, sh1, sh2, sh3, sh4, sh5, sh6, sh7, sh8, sh9, sh10, sh11, sh12, sh13, sh14, sh15, sh16, sh17, sh18, sh19, sh20, sh21, sh22, sh23, sh24, sh25, sh26, sh27, sh28, sh29, sh30, sh31, sh32, sh33, sh34, sh35, sh36, sh37, sh38, sh39, sh40, sh41, sh42, sh43, sh44, sh45, sh46, sh47, sh48, sh49, sh50, sh51, sh52, sh53, sh54, sh55, sh56, sh57, sh58, sh59, brP, brN, swP, amask, apush, List.getElem?_cons_zero, List.getElem?_cons_succ, List.set_cons_zero, List.set_cons_succ, List.take_succ_cons, List.take_zero, List.drop_succ_cons, List.drop_zero, List.reverse_cons, List.reverse_nil, List.nil_append, List.cons_append, List.length_cons, List.length_nil, true_and, and_true, Nat.zero_le, Nat.reduceLeDiff, Nat.reduceAdd, Nat.reduceEqDiff, false_imp_iff, true_imp_iff, not_false_eq_true, not_true_eq_false, imp_self, forall_const]
  refine ⟨_, ⟨2, by decide, c_roundsToBreak m hm t ht⟩, ?_⟩
  intro z u hR
  have hRM : RM m u := by
    rcases hR with ⟨k, _, _, _, hI, _⟩ | ⟨k, _, hI, _⟩
    · exact hI.rm
    · exact hI.rm
  have hG : agr (nF m) (nL m) (nC m) t → isG (nL m) (nC m) t (fun b => (u 22 b).toInt) := by
    intro hag
    rcases hR with ⟨k, _, _, hf, hI, _⟩ | ⟨k, _, hI, hnb, hst⟩
    · exact absurd hag (brk_nagr hf.1)
    · have h1 := isG_lat (L := nL m) (cst := nC m) (t := t) (k := k) (fun b hb _ => hst b hb)
      have e : ∀ b, b < 12 → (u 22 b).toInt = lat (nL m) (nC m) t k b := fun b hb => by rw [hI.2.2.1 b hb, hst b hb]
      refine ⟨fun b hb htb => ?_, fun a b c ha hb hta htb hc => ?_, fun y hy hyc b hb htb => ?_⟩
      · (try dsimp only); rw [e b hb]; exact h1.1 b hb htb
      · (try dsimp only); rw [e a ha, e b hb]; exact h1.2.1 a b c ha hb hta htb hc
      · (try dsimp only); rw [e b hb]; exact h1.2.2 y hy hyc b hb htb
  have hzz : ∃ x, z = some x := by
    rcases hR with ⟨k, _, e, _⟩ | ⟨k, e, _⟩
    · exact ⟨_, e⟩
    · exact ⟨_, e⟩
  obtain ⟨x, rfl⟩ := hzz
  simp only [exP, stP, p1, p2, pr, pobj, parr, sh0, sh1, sh2, sh3, sh4, sh5, sh6, sh7, sh8, sh9, sh10, sh11, sh12, sh13, sh14, sh15, sh16, sh17, sh18, sh19, sh20, sh21, sh22, sh23, sh24, sh25, sh26, sh27, sh28, sh29, sh30, sh31, sh32, sh33, sh34, sh35, sh36, sh37, sh38, sh39, sh40, sh41, sh42, sh43, sh44, sh45, sh46, sh47, sh48, sh49, sh50, sh51, sh52, sh53, sh54, sh55, sh56, sh57, sh58, sh59, brP, brN, swP, amask, apush, List.getElem?_cons_zero, List.getElem?_cons_succ, List.set_cons_zero, List.set_cons_succ, List.take_succ_cons, List.take_zero, List.drop_succ_cons, List.drop_zero, List.reverse_cons, List.reverse_nil, List.nil_append, List.cons_append, List.length_cons, List.length_nil, true_and, and_true, Nat.zero_le, Nat.reduceLeDiff, Nat.reduceAdd, Nat.reduceEqDiff, false_imp_iff, true_imp_iff, not_false_eq_true, not_true_eq_false, imp_self, forall_const]
  refine ⟨by decide, by decide, by decide, by decide, by decide, by decide, by decide, by decide, by decide, by decide, ?_⟩
  rw [show Int32.toNatClampNeg 0 = 0 from rfl, show Int32.toNatClampNeg 12 = 12 from rfl]
  refine loop 11 0 _ rfl (fun j j1 j2 j3 j4 j5 j6 => ?_) (fun j hj => ?_) (fun hag => ?_) (fun b hb => ?_) (fun b hb htb => ?_) (fun y hy hyc b hb htb => ?_)
  · rw [aup_ne j2, aup_ne j3]; exact hRM.1 j j1 j4 j5 j6
  · rw [aup_ne (by omega), aup_ne (by omega)]; exact hRM.2 j hj
  · have h1 := hG hag
    have e : ∀ b, b < 12 → (aup (aup u 21 (va_cpy (u 22) (u 21) 0 0 12)) 20 (va_cpy (aup u 21 (va_cpy (u 22) (u 21) 0 0 12) 16) (aup u 21 (va_cpy (u 22) (u 21) 0 0 12) 20) 0 0 12) 21 b).toInt = (u 22 b).toInt := fun b hb => by
      rw [aup_ne (by omega), aup_eq, sb_cpy0 hb]
    refine ⟨fun b hb htb => ?_, fun a b c ha hb hta htb hc => ?_, fun y hy hyc b hb htb => ?_⟩
    · (try dsimp only); rw [e b hb]; exact h1.1 b hb htb
    · (try dsimp only); rw [e a ha, e b hb]; exact h1.2.1 a b c ha hb hta htb hc
    · (try dsimp only); rw [e b hb]; exact h1.2.2 y hy hyc b hb htb
  · rw [aup_eq, sb_cpy0 hb, aup_ne (by omega), hRM.1 16 (by omega) (by omega) (by omega) (by omega)]
    have := hm.1 b hb
    unfold nF at this ⊢
    omega
  · rw [aup_eq, sb_cpy0 hb, aup_ne (by omega), hRM.1 16 (by omega) (by omega) (by omega) (by omega)]
    exact Int.le_refl _
  · rw [aup_eq, sb_cpy0 hb, aup_ne (by omega), hRM.1 16 (by omega) (by omega) (by omega) (by omega)]
    exact hy b hb htb
end
section
/-! ===== the search for the lightest set ===== -/
def wtm (m : AM) (i : Nat) : Int := (m 26 i).toInt
def WOK (m : AM) : Prop := ∀ i, i < 12 → 0 ≤ wtm m i ∧ wtm m i ≤ 99
theorem wsN_range {wt : Nat → Int} {t : Nat} (h : ∀ i, i < 12 → 0 ≤ wt i ∧ wt i ≤ 99) : ∀ n, n ≤ 12 → 0 ≤ wsN wt t n ∧ wsN wt t n ≤ 99 * n
  | 0, _ => ⟨Int.le_refl _, by show (0 : Int) ≤ _; omega⟩
  | n + 1, hn => by
    have h1 := wsN_range (t := t) h n (by omega)
    have h2 := h n (by omega)
    unfold wsN
    split <;> omega
theorem c_weigh (m : AM) (hw : WOK m) (t : Nat) (ht : t < 4096) : AC 1 kX1_weigh [.inr 25, .inl (nI t)] m (fun z u => m = u ∧ ∃ x, z = some x ∧ x.toInt = ws (wtm m) t) := by
  refine AC_of own_X1_weigh (ls := [some (.inr 25), some (.inl (nI t)), none, none]) (z := 2) (Nat.le_of_ble_eq_true rfl) rfl ?_
  have loop : ∀ (n j : Nat) (x : Int32), j + n = 12 → x.toInt = wsN (wtm m) t j → AW 1 kX1_weigh (fun z u => m = u ∧ ∃ x, z = some x ∧ x.toInt = ws (wtm m) t) 4 [some (.inr 25), some (.inl (nI t)), some (.inl x), some (.inl (nI j))] [] m := by
    intro n
    induction n with
    | zero =>
      intro j x h hx
      obtain rfl : j = 12 := by omega
      refine st_X1_weigh_4 ?_; simp only [bX1_weigh_4, exP, stP, p1, p2, pr, pobj, parr, sh0, sh1, sh2, sh3, sh4, sh5, sh6, sh7, sh8, sh9, sh10, sh11, sh12, sh13, sh14, sh15, sh16, sh17, sh18, sh19, sh20, sh21, sh22, sh23, sh24, sh25, sh26, sh27, sh28, sh29, sh30, sh31, sh32, sh33, sh34, sh35, sh36, sh37, sh38, sh39, sh40, sh41, sh42, sh43, sh44, sh45, sh46, sh47, sh48, sh49, sh50, sh51, sh52, sh53, sh54, sh55, sh56, sh57, sh58, sh59, brP, brN, swP, amask, apush, List.getElem?_cons_zero, List.getElem?_cons_succ, List.set_cons_zero, List.set_cons_succ, List.take_succ_cons, List.take_zero, List.drop_succ_cons, List.drop_zero, List.reverse_cons, List.reverse_nil, List.nil_append, List.cons_append, List.length_cons, List.length_nil, true_and, and_true, Nat.zero_le, Nat.reduceLeDiff, Nat.reduceAdd, Nat.reduceEqDiff, false_imp_iff, true_imp_iff, not_false_eq_true, not_true_eq_false, imp_self, forall_const, lit_le (k := 12) (n := 12) (by omega) (by omega)]
      refine st_X1_weigh_33 ?_; simp only [bX1_weigh_33, exP, stP, p1, p2, pr, pobj, parr, sh0, sh1, sh2, sh3, sh4, sh5, sh6, sh7, sh8, sh9, sh10, sh11, sh12, sh13, sh14, sh15, sh16, sh17, sh18, sh19, sh20, sh21, sh22, sh23, sh24, sh25, sh26, sh27, sh28, sh29, sh30, sh31, sh32, sh33, sh34, sh35, sh36, sh37, sh38, sh39, sh40, sh41, sh42, sh43, sh44, sh45, sh46, sh47, sh48, sh49, sh50, sh51, sh52, sh53, sh54, sh55, sh56, sh57, sh58, sh59, brP, brN, swP, amask, apush, List.getElem?_cons_zero, List.getElem?_cons_succ, List.set_cons_zero, List.set_cons_succ, List.take_succ_cons, List.take_zero, List.drop_succ_cons, List.drop_zero, List.reverse_cons, List.reverse_nil, List.nil_append, List.cons_append, List.length_cons, List.length_nil, true_and, and_true, Nat.zero_le, Nat.reduceLeDiff, Nat.reduceAdd, Nat.reduceEqDiff, false_imp_iff, true_imp_iff, not_false_eq_true, not_true_eq_false, imp_self, forall_const]
      exact ⟨Or.inl trivial, x, rfl, hx⟩
    | succ n ih =>
      intro j x h hx
      have hj : j < 12 := by omega
      have vj := eq_true (vp_in_nI (show j < 12 by omega) (show 12 < 2 ^ 31 by omega))
      have cj := nI_clamp (show j < 2 ^ 31 by omega)
      have hr := wsN_range (t := t) hw j (by omega)
      have hwj := hw j hj
      refine st_X1_weigh_4 ?_; simp only [bX1_weigh_4, exP, stP, p1, p2, pr, pobj, parr, sh0, sh1, sh2, sh3, sh4, sh5, sh6, sh7, sh8, sh9, sh10, sh11, sh12, sh13, sh14, sh15, sh16, sh17, sh18, sh19, sh20, sh21, sh22, sh23, sh24, sh25, sh26, sh27, sh28, sh29, sh30, sh31, sh32, sh33, sh34, sh35, sh36, sh37, sh38, sh39, sh40, sh41, sh42, sh43, sh44, sh45, sh46, sh47, sh48, sh49, sh50, sh51, sh52, sh53, sh54, sh55, sh56, sh57, sh58, sh59, brP, brN, swP, amask, apush, List.getElem?_cons_zero, List.getElem?_cons_succ, List.set_cons_zero, List.set_cons_succ, List.take_succ_cons, List.take_zero, List.drop_succ_cons, List.drop_zero, List.reverse_cons, List.reverse_nil, List.nil_append, List.cons_append, List.length_cons, List.length_nil, true_and, and_true, Nat.zero_le, Nat.reduceLeDiff, Nat.reduceAdd, Nat.reduceEqDiff, false_imp_iff, true_imp_iff, not_false_eq_true, not_true_eq_false, imp_self, forall_const, lit_nle (k := 12) (n := j) hj (by omega)]
      refine st_X1_weigh_10 ?_; simp only [bX1_weigh_10, exP, stP, p1, p2, pr, pobj, parr, sh0, sh1, sh2, sh3, sh4, sh5, sh6, sh7, sh8, sh9, sh10, sh11, sh12, sh13, sh14, sh15, sh16, sh17, sh18, sh19, sh20, sh21, sh22, sh23, sh24, sh25, sh26, sh27, sh28, sh29, sh30, sh31, sh32, sh33, sh34, sh35, sh36, sh37, sh38, sh39, sh40, sh41, sh42, sh43, sh44, sh45, sh46, sh47, sh48, sh49, sh50, sh51, sh52, sh53, sh54, sh55, sh56, sh57, sh58, sh59, brP, brN, swP, amask, apush, List.getElem?_cons_zero, List.getElem?_cons_succ, List.set_cons_zero, List.set_cons_succ, List.take_succ_cons, List.take_zero, List.drop_succ_cons, List.drop_zero, List.reverse_cons, List.reverse_nil, List.nil_append, List.cons_append, List.length_cons, List.length_nil, true_and, and_true, Nat.zero_le, Nat.reduceLeDiff, Nat.reduceAdd, Nat.reduceEqDiff, false_imp_iff, true_imp_iff, not_false_eq_true, not_true_eq_false, imp_self, forall_const]
      refine ⟨_, ⟨0, by decide, c_holds _ _ j (by omega)⟩, ?_⟩; rintro _ _ ⟨rfl, rfl⟩; simp only [exP, stP, p1, p2, pr, pobj, parr, sh0, sh1, sh2, sh3, sh4, sh5, sh6, sh7, sh8, sh9, sh10, sh11, sh12, sh13, sh14, sh15, sh16, sh17, sh18, sh19, sh20, sh21, sh22, sh23, sh24, sh25, sh26, sh27, sh28, sh29, sh30, sh31, sh32, sh33, sh34, sh35, sh36, sh37, sh38, sh39, sh40, sh41, sh42, sh43, sh44, sh45, sh46, sh47, sh48, sh49, sh50, sh51, sh52, sh53, sh54, sh55, sh56, sh57, sh58, sh59, brP, brN, swP, amask, apush, List.getElem?_cons_zero, List.getElem?_cons_succ, List.set_cons_zero, List.set_cons_succ, List.take_succ_cons, List.take_zero, List.drop_succ_cons, List.drop_zero, List.reverse_cons, List.reverse_nil, List.nil_append, List.cons_append, List.length_cons, List.length_nil, true_and, and_true, Nat.zero_le, Nat.reduceLeDiff, Nat.reduceAdd, Nat.reduceEqDiff, false_imp_iff, true_imp_iff, not_false_eq_true, not_true_eq_false, imp_self, forall_const, b01_0, bt_nI (show t < 4294967296 by omega)]
      refine ⟨fun c => ?_, fun c => ?_⟩
      · refine st_X1_weigh_27 ?_; simp only [bX1_weigh_27, exP, stP, p1, p2, pr, pobj, parr, sh0, sh1, sh2, sh3, sh4, sh5, sh6, sh7, sh8, sh9, sh10, sh11, sh12, sh13, sh14, sh15, sh16, sh17, sh18, sh19, sh20, sh21, sh22, sh23, sh24, sh25, sh26, sh27, sh28, sh29, sh30, sh31, sh32, sh33, sh34, sh35, sh36, sh37, sh38, sh39, sh40, sh41, sh42, sh43, sh44, sh45, sh46, sh47, sh48, sh49, sh50, sh51, sh52, sh53, sh54, sh55, sh56, sh57, sh58, sh59, brP, brN, swP, amask, apush, List.getElem?_cons_zero, List.getElem?_cons_succ, List.set_cons_zero, List.set_cons_succ, List.take_succ_cons, List.take_zero, List.drop_succ_cons, List.drop_zero, List.reverse_cons, List.reverse_nil, List.nil_append, List.cons_append, List.length_cons, List.length_nil, true_and, and_true, Nat.zero_le, Nat.reduceLeDiff, Nat.reduceAdd, Nat.reduceEqDiff, false_imp_iff, true_imp_iff, not_false_eq_true, not_true_eq_false, imp_self, forall_const]
        rw [nI_1]
        refine ih (j + 1) x (by omega) ?_
        unfold wsN
        rw [c, hx]; simp
      · refine st_X1_weigh_18 ?_; simp only [bX1_weigh_18, exP, stP, p1, p2, pr, pobj, parr, sh0, sh1, sh2, sh3, sh4, sh5, sh6, sh7, sh8, sh9, sh10, sh11, sh12, sh13, sh14, sh15, sh16, sh17, sh18, sh19, sh20, sh21, sh22, sh23, sh24, sh25, sh26, sh27, sh28, sh29, sh30, sh31, sh32, sh33, sh34, sh35, sh36, sh37, sh38, sh39, sh40, sh41, sh42, sh43, sh44, sh45, sh46, sh47, sh48, sh49, sh50, sh51, sh52, sh53, sh54, sh55, sh56, sh57, sh58, sh59, brP, brN, swP, amask, apush, List.getElem?_cons_zero, List.getElem?_cons_succ, List.set_cons_zero, List.set_cons_succ, List.take_succ_cons, List.take_zero, List.drop_succ_cons, List.drop_zero, List.reverse_cons, List.reverse_nil, List.nil_append, List.cons_append, List.length_cons, List.length_nil, true_and, and_true, Nat.zero_le, Nat.reduceLeDiff, Nat.reduceAdd, Nat.reduceEqDiff, false_imp_iff, true_imp_iff, not_false_eq_true, not_true_eq_false, imp_self, forall_const, vj, cj]
        refine st_X1_weigh_27 ?_; simp only [bX1_weigh_27, exP, stP, p1, p2, pr, pobj, parr, sh0, sh1, sh2, sh3, sh4, sh5, sh6, sh7, sh8, sh9, sh10, sh11, sh12, sh13, sh14, sh15, sh16, sh17, sh18, sh19, sh20, sh21, sh22, sh23, sh24, sh25, sh26, sh27, sh28, sh29, sh30, sh31, sh32, sh33, sh34, sh35, sh36, sh37, sh38, sh39, sh40, sh41, sh42, sh43, sh44, sh45, sh46, sh47, sh48, sh49, sh50, sh51, sh52, sh53, sh54, sh55, sh56, sh57, sh58, sh59, brP, brN, swP, amask, apush, List.getElem?_cons_zero, List.getElem?_cons_succ, List.set_cons_zero, List.set_cons_succ, List.take_succ_cons, List.take_zero, List.drop_succ_cons, List.drop_zero, List.reverse_cons, List.reverse_nil, List.nil_append, List.cons_append, List.length_cons, List.length_nil, true_and, and_true, Nat.zero_le, Nat.reduceLeDiff, Nat.reduceAdd, Nat.reduceEqDiff, false_imp_iff, true_imp_iff, not_false_eq_true, not_true_eq_false, imp_self, forall_const]
        rw [nI_1]
        refine ih (j + 1) _ (by omega) ?_
        have c2 : t.testBit j = true := by simpa using c
        unfold wtm at hwj
        unfold wsN
        rw [if_pos c2, i32_add (by omega) (by omega), hx]
        rfl
  refine st_X1_weigh_0 ?_; simp only [bX1_weigh_0, exP, stP, p1, p2, pr, pobj, parr, sh0, sh1, sh2, sh3, sh4, sh5, sh6, sh7, sh8, sh9, sh10, sh11, sh12, sh13, sh14, sh15, sh16, sh17, sh18, sh19, sh20, sh21, sh22, sh23, sh24, sh25, sh26, sh27, sh28, sh29, sh30, sh31, sh32, sh33, sh34, sh35, sh36, sh37, sh38, sh39, sh40, sh41, sh42, sh43, sh44, sh45, sh46, sh47, sh48, sh49, sh50, sh51, sh52, sh53, sh54, sh55, sh56, sh57, sh58, sh59, brP, brN, swP, amask, apush, List.getElem?_cons_zero, List.getElem?_cons_succ, List.set_cons_zero, List.set_cons_succ, List.take_succ_cons, List.take_zero, List.drop_succ_cons, List.drop_zero, List.reverse_cons, List.reverse_nil, List.nil_append, List.cons_append, List.length_cons, List.length_nil, true_and, and_true, Nat.zero_le, Nat.reduceLeDiff, Nat.reduceAdd, Nat.reduceEqDiff, false_imp_iff, true_imp_iff, not_false_eq_true, not_true_eq_false, imp_self, forall_const]
  exact loop 12 0 0 rfl rfl
theorem c_compare (m : AM) (x y : Int32) : AC 0 kJ6_compare [.inl x, .inl y] m (fun z u => m = u ∧ z = some (if x < y then -1 else if x = y then 0 else 1)) := by
  refine AC_of own_J6_compare (ls := [some (.inl x), some (.inl y)]) (z := 0) (Nat.le_of_ble_eq_true rfl) rfl ?_
  refine st_J6_compare_0 ?_; simp only [bJ6_compare_0, exP, stP, p1, p2, pr, pobj, parr, sh0, sh1, sh2, sh3, sh4, sh5, sh6, sh7, sh8, sh9, sh10, sh11, sh12, sh13, sh14, sh15, sh16, sh17, sh18, sh19, sh20, sh21, sh22, sh23, sh24, sh25, sh26, sh27, sh28, sh29, sh30, sh31, sh32, sh33, sh34, sh35, sh36, sh37, sh38, sh39, sh40, sh41, sh42, sh43, sh44, sh45, sh46, sh47, sh48, sh49, sh50, sh51, sh52, sh53, sh54, sh55, sh56, sh57, sh58, sh59, brP, brN, swP, amask, apush, List.getElem?_cons_zero, List.getElem?_cons_succ, List.set_cons_zero, List.set_cons_succ, List.take_succ_cons, List.take_zero, List.drop_succ_cons, List.drop_zero, List.reverse_cons, List.reverse_nil, List.nil_append, List.cons_append, List.length_cons, List.length_nil, true_and, and_true, Nat.zero_le, Nat.reduceLeDiff, Nat.reduceAdd, Nat.reduceEqDiff, false_imp_iff, true_imp_iff, not_false_eq_true, not_true_eq_false, imp_self, forall_const]
  refine ⟨fun c => ?_, fun c => ?_⟩
  · have c1 : ¬ x < y := by rw [Int32.lt_iff_toInt_lt]; rw [Int32.le_iff_toInt_le] at c; omega
    refine st_J6_compare_9 ?_; simp only [bJ6_compare_9, exP, stP, p1, p2, pr, pobj, parr, sh0, sh1, sh2, sh3, sh4, sh5, sh6, sh7, sh8, sh9, sh10, sh11, sh12, sh13, sh14, sh15, sh16, sh17, sh18, sh19, sh20, sh21, sh22, sh23, sh24, sh25, sh26, sh27, sh28, sh29, sh30, sh31, sh32, sh33, sh34, sh35, sh36, sh37, sh38, sh39, sh40, sh41, sh42, sh43, sh44, sh45, sh46, sh47, sh48, sh49, sh50, sh51, sh52, sh53, sh54, sh55, sh56, sh57, sh58, sh59, brP, brN, swP, amask, apush, List.getElem?_cons_zero, List.getElem?_cons_succ, List.set_cons_zero, List.set_cons_succ, List.take_succ_cons, List.take_zero, List.drop_succ_cons, List.drop_zero, List.reverse_cons, List.reverse_nil, List.nil_append, List.cons_append, List.length_cons, List.length_nil, true_and, and_true, Nat.zero_le, Nat.reduceLeDiff, Nat.reduceAdd, Nat.reduceEqDiff, false_imp_iff, true_imp_iff, not_false_eq_true, not_true_eq_false, imp_self, forall_const]
    refine ⟨fun c2 => ?_, fun c2 => ?_⟩
    · refine st_J6_compare_18 ?_; simp only [bJ6_compare_18, exP, stP, p1, p2, pr, pobj, parr, sh0, sh1, sh2, sh3, sh4, sh5, sh6, sh7, sh8, sh9, sh10, sh11, sh12, sh13, sh14, sh15, sh16, sh17, sh18, sh19, sh20, sh21, sh22, sh23, sh24, sh25, sh26, sh27, sh28, sh29, sh30, sh31, sh32, sh33, sh34, sh35, sh36, sh37, sh38, sh39, sh40, sh41, sh42, sh43, sh44, sh45, sh46, sh47, sh48, sh49, sh50, sh51, sh52, sh53, sh54, sh55, sh56, sh57, sh58, sh59, brP, brN, swP, amask, apush, List.getElem?_cons_zero, List.getElem?_cons_succ, List.set_cons_zero, List.set_cons_succ, List.take_succ_cons, List.take_zero, List.drop_succ_cons, List.drop_zero, List.reverse_cons, List.reverse_nil, List.nil_append, List.cons_append, List.length_cons, List.length_nil, true_and, and_true, Nat.zero_le, Nat.reduceLeDiff, Nat.reduceAdd, Nat.reduceEqDiff, false_imp_iff, true_imp_iff, not_false_eq_true, not_true_eq_false, imp_self, forall_const]
      refine st_J6_compare_19 ?_; simp only [bJ6_compare_19, exP, stP, p1, p2, pr, pobj, parr, sh0, sh1, sh2, sh3, sh4, sh5, sh6, sh7, sh8, sh9, sh10, sh11, sh12, sh13, sh14, sh15, sh16, sh17, sh18, sh19, sh20, sh21, sh22, sh23, sh24, sh25, sh26, sh27, sh28, sh29, sh30, sh31, sh32, sh33, sh34, sh35, sh36, sh37, sh38, sh39, sh40, sh41, sh42, sh43, sh44, sh45, sh46, sh47, sh48, sh49, sh50, sh51, sh52, sh53, sh54, sh55, sh56, sh57, sh58, sh59, brP, brN, swP, amask, apush, List.getElem?_cons_zero, List.getElem?_cons_succ, List.set_cons_zero, List.set_cons_succ, List.take_succ_cons, List.take_zero, List.drop_succ_cons, List.drop_zero, List.reverse_cons, List.reverse_nil, List.nil_append, List.cons_append, List.length_cons, List.length_nil, true_and, and_true, Nat.zero_le, Nat.reduceLeDiff, Nat.reduceAdd, Nat.reduceEqDiff, false_imp_iff, true_imp_iff, not_false_eq_true, not_true_eq_false, imp_self, forall_const]
      rw [if_neg c1, if_neg c2]; simp
    · refine st_J6_compare_14 ?_; simp only [bJ6_compare_14, exP, stP, p1, p2, pr, pobj, parr, sh0, sh1, sh2, sh3, sh4, sh5, sh6, sh7, sh8, sh9, sh10, sh11, sh12, sh13, sh14, sh15, sh16, sh17, sh18, sh19, sh20, sh21, sh22, sh23, sh24, sh25, sh26, sh27, sh28, sh29, sh30, sh31, sh32, sh33, sh34, sh35, sh36, sh37, sh38, sh39, sh40, sh41, sh42, sh43, sh44, sh45, sh46, sh47, sh48, sh49, sh50, sh51, sh52, sh53, sh54, sh55, sh56, sh57, sh58, sh59, brP, brN, swP, amask, apush, List.getElem?_cons_zero, List.getElem?_cons_succ, List.set_cons_zero, List.set_cons_succ, List.take_succ_cons, List.take_zero, List.drop_succ_cons, List.drop_zero, List.reverse_cons, List.reverse_nil, List.nil_append, List.cons_append, List.length_cons, List.length_nil, true_and, and_true, Nat.zero_le, Nat.reduceLeDiff, Nat.reduceAdd, Nat.reduceEqDiff, false_imp_iff, true_imp_iff, not_false_eq_true, not_true_eq_false, imp_self, forall_const]
      refine st_J6_compare_19 ?_; simp only [bJ6_compare_19, exP, stP, p1, p2, pr, pobj, parr, sh0, sh1, sh2, sh3, sh4, sh5, sh6, sh7, sh8, sh9, sh10, sh11, sh12, sh13, sh14, sh15, sh16, sh17, sh18, sh19, sh20, sh21, sh22, sh23, sh24, sh25, sh26, sh27, sh28, sh29, sh30, sh31, sh32, sh33, sh34, sh35, sh36, sh37, sh38, sh39, sh40, sh41, sh42, sh43, sh44, sh45, sh46, sh47, sh48, sh49, sh50, sh51, sh52, sh53, sh54, sh55, sh56, sh57, sh58, sh59, brP, brN, swP, amask, apush, List.getElem?_cons_zero, List.getElem?_cons_succ, List.set_cons_zero, List.set_cons_succ, List.take_succ_cons, List.take_zero, List.drop_succ_cons, List.drop_zero, List.reverse_cons, List.reverse_nil, List.nil_append, List.cons_append, List.length_cons, List.length_nil, true_and, and_true, Nat.zero_le, Nat.reduceLeDiff, Nat.reduceAdd, Nat.reduceEqDiff, false_imp_iff, true_imp_iff, not_false_eq_true, not_true_eq_false, imp_self, forall_const]
      rw [if_neg c1, if_pos c2]; simp
  · have c1 : x < y := by rw [Int32.lt_iff_toInt_lt]; rw [Int32.le_iff_toInt_le] at c; omega
    refine st_J6_compare_5 ?_; simp only [bJ6_compare_5, exP, stP, p1, p2, pr, pobj, parr, sh0, sh1, sh2, sh3, sh4, sh5, sh6, sh7, sh8, sh9, sh10, sh11, sh12, sh13, sh14, sh15, sh16, sh17, sh18, sh19, sh20, sh21, sh22, sh23, sh24, sh25, sh26, sh27, sh28, sh29, sh30, sh31, sh32, sh33, sh34, sh35, sh36, sh37, sh38, sh39, sh40, sh41, sh42, sh43, sh44, sh45, sh46, sh47, sh48, sh49, sh50, sh51, sh52, sh53, sh54, sh55, sh56, sh57, sh58, sh59, brP, brN, swP, amask, apush, List.getElem?_cons_zero, List.getElem?_cons_succ, List.set_cons_zero, List.set_cons_succ, List.take_succ_cons, List.take_zero, List.drop_succ_cons, List.drop_zero, List.reverse_cons, List.reverse_nil, List.nil_append, List.cons_append, List.length_cons, List.length_nil, true_and, and_true, Nat.zero_le, Nat.reduceLeDiff, Nat.reduceAdd, Nat.reduceEqDiff, false_imp_iff, true_imp_iff, not_false_eq_true, not_true_eq_false, imp_self, forall_const]
    refine st_J6_compare_19 ?_; simp only [bJ6_compare_19, exP, stP, p1, p2, pr, pobj, parr, sh0, sh1, sh2, sh3, sh4, sh5, sh6, sh7, sh8, sh9, sh10, sh11, sh12, sh13, sh14, sh15, sh16, sh17, sh18, sh19, sh20, sh21, sh22, sh23, sh24, sh25, sh26, sh27, sh28, sh29, sh30, sh31, sh32, sh33, sh34, sh35, sh36, sh37, sh38, sh39, sh40, sh41, sh42, sh43, sh44, sh45, sh46, sh47, sh48, sh49, sh50, sh51, sh52, sh53, sh54, sh55, sh56, sh57, sh58, sh59, brP, brN, swP, amask, apush, List.getElem?_cons_zero, List.getElem?_cons_succ, List.set_cons_zero, List.set_cons_succ, List.take_succ_cons, List.take_zero, List.drop_succ_cons, List.drop_zero, List.reverse_cons, List.reverse_nil, List.nil_append, List.cons_append, List.length_cons, List.length_nil, true_and, and_true, Nat.zero_le, Nat.reduceLeDiff, Nat.reduceAdd, Nat.reduceEqDiff, false_imp_iff, true_imp_iff, not_false_eq_true, not_true_eq_false, imp_self, forall_const]
    rw [if_pos c1]; simp
set_option maxRecDepth 100000 in
theorem bc_64 : (List.range 64).all (fun a => (List.range 64).all (fun b => decide (f_bc (nI (a * 64 + b)) = nI (sz (a * 64 + b))))) = true := by decide +kernel
theorem bc_sz {t : Nat} (h : t < 4096) : f_bc (nI t) = nI (sz t) := by
  have h1 := List.all_eq_true.mp bc_64 (t / 64) (List.mem_range.mpr (by omega))
  have h2 := List.all_eq_true.mp h1 (t % 64) (List.mem_range.mpr (by omega))
  have e : t / 64 * 64 + t % 64 = t := by omega
  rw [e] at h2
  simpa using h2
/-- the best so far -/
def SB (m u : AM) (b : Nat) : Prop := low12 b ∧ u 25 2 = nI b ∧ (u 25 3).toInt = ws (wtm m) b
def SM (m u : AM) : Prop := (∀ j, j ≠ 15 → j ≠ 22 → j ≠ 23 → j ≠ 24 → j ≠ 25 → u j = m j) ∧ ∀ j, j ≠ 10 → u 15 j = m 15 j
theorem SM.rf (m : AM) : SM m m := ⟨fun _ _ _ _ _ _ => rfl, fun _ _ => rfl⟩
theorem SM.tr {m u v : AM} (h1 : SM m u) (h2 : SM u v) : SM m v := ⟨fun j a b c d e => (h2.1 j a b c d e).trans (h1.1 j a b c d e), fun j a => (h2.2 j a).trans (h1.2 j a)⟩
theorem RM.sm {m u : AM} (h : RM m u) : SM m u := ⟨fun j a b c d _ => h.1 j a b c d, h.2⟩
theorem SM.eF {m u : AM} (h : SM m u) : nF u = nF m := by funext d; unfold nF; rw [h.1 16 (by omega) (by omega) (by omega) (by omega) (by omega)]
theorem SM.eL {m u : AM} (h : SM m u) : nL u = nL m := by funext d; unfold nL; rw [h.1 17 (by omega) (by omega) (by omega) (by omega) (by omega)]
theorem SM.eC {m u : AM} (h : SM m u) : nC u = nC m := by
  funext a b
  have e1 := h.1 19 (by omega) (by omega) (by omega) (by omega) (by omega)
  have e2 := h.1 18 (by omega) (by omega) (by omega) (by omega) (by omega)
  have e3 := h.2 9 (by omega)
  unfold nC
  rw [e1, e2, e3]
theorem SM.eW {m u : AM} (h : SM m u) : wtm u = wtm m := by funext d; unfold wtm; rw [h.1 26 (by omega) (by omega) (by omega) (by omega) (by omega)]
theorem SM.tw {m u : AM} (h : SM m u) (hm : TW m) : TW u := by
  unfold TW
  rw [h.eF, h.eL, h.2 9 (by omega)]
  exact hm
theorem SM.wok {m u : AM} (h : SM m u) (hm : WOK m) : WOK u := by
  unfold WOK
  rw [h.eW]
  exact hm
def KB (m : AM) (x b : Nat) : APost := fun z u => z = none ∧ (∀ j, j ≠ 25 → u j = m j) ∧ ∃ b', (b' = x ∨ b' = b) ∧ SB m u b' ∧ nw (wtm m) b' x ∧ nw (wtm m) b' b
theorem c_keepBetter (m : AM) (hw : WOK m) (x b : Nat) (hx : low12 x) (hS : SB m m b) : AC 2 kX1_keepBetter [.inr 25, .inl (nI x)] m (KB m x b) := by
  have hx2 := low12_lt hx
  obtain ⟨hb, hb1, hb2⟩ := hS
  have hb3 := low12_lt hb
  have hsx := pcN_le x 12
  have hsb := pcN_le b 12
  have hsx2 : sz x ≤ 12 := hsx
  have hsb2 : sz b ≤ 12 := hsb
  refine AC_of own_X1_keepBetter (ls := [some (.inr 25), some (.inl (nI x)), none]) (z := 1) (Nat.le_of_ble_eq_true rfl) rfl ?_
  have stay : nw (wtm m) b x → AW 2 kX1_keepBetter (KB m x b) 62 [none, none, none] [] m := by
    intro h
    refine st_X1_keepBetter_62 ?_; simp only [bX1_keepBetter_62, exP, stP, p1, p2, pr, pobj, parr, sh0, sh1, sh2, sh3, sh4, sh5, sh6, sh7, sh8, sh9, sh10, sh11, sh12, sh13, sh14, sh15, sh16, sh17, sh18, sh19, sh20, sh21, sh22, sh23, sh24, sh25, sh26, sh27, sh28, sh29, sh30, sh31, sh32, sh33, sh34, sh35, sh36, sh37, sh38, sh39, sh40, sh41, sh42, sh43, sh44, sh45, sh46, sh47, sh48, sh49, sh50, sh51, sh52, sh53, sh54, sh55, sh56, sh57, sh58, sh59, brP, brN, swP, amask, apush, List.getElem?_cons_zero, List.getElem?_cons_succ, List.set_cons_zero, List.set_cons_succ, List.take_succ_cons, List.take_zero, List.drop_succ_cons, List.drop_zero, List.reverse_cons, List.reverse_nil, List.nil_append, List.cons_append, List.length_cons, List.length_nil, true_and, and_true, Nat.zero_le, Nat.reduceLeDiff, Nat.reduceAdd, Nat.reduceEqDiff, false_imp_iff, true_imp_iff, not_false_eq_true, not_true_eq_false, imp_self, forall_const]
    exact ⟨rfl, fun _ _ => rfl, b, Or.inr rfl, ⟨hb, hb1, hb2⟩, h, nw_refl _ _⟩
  have take : nw (wtm m) x b → AW 2 kX1_keepBetter (KB m x b) 48 [some (.inr 25), some (.inl (nI x)), none] [] m := by
    intro h
    refine st_X1_keepBetter_48 ?_; simp only [bX1_keepBetter_48, exP, stP, p1, p2, pr, pobj, parr, sh0, sh1, sh2, sh3, sh4, sh5, sh6, sh7, sh8, sh9, sh10, sh11, sh12, sh13, sh14, sh15, sh16, sh17, sh18, sh19, sh20, sh21, sh22, sh23, sh24, sh25, sh26, sh27, sh28, sh29, sh30, sh31, sh32, sh33, sh34, sh35, sh36, sh37, sh38, sh39, sh40, sh41, sh42, sh43, sh44, sh45, sh46, sh47, sh48, sh49, sh50, sh51, sh52, sh53, sh54, sh55, sh56, sh57, sh58, sh59, brP, brN, swP, amask, apush, List.getElem?_cons_zero, List.getElem?_cons_succ, List.set_cons_zero, List.set_cons_succ, List.take_succ_cons, List.take_zero, List.drop_succ_cons, List.drop_zero, List.reverse_cons, List.reverse_nil, List.nil_append, List.cons_append, List.length_cons, List.length_nil, true_and, and_true, Nat.zero_le, Nat.reduceLeDiff, Nat.reduceAdd, Nat.reduceEqDiff, false_imp_iff, true_imp_iff, not_false_eq_true, not_true_eq_false, imp_self, forall_const, true_or]
    have e26 : wtm (aup m 25 (upd (m 25) 2 (nI x))) = wtm m := by funext i; unfold wtm; rw [aup_ne (by omega)]
    refine ⟨_, ⟨1, by decide, c_weigh _ (by unfold WOK; rw [e26]; exact hw) x hx2⟩, ?_⟩
    rintro z u ⟨rfl, w, rfl, hwx⟩
    simp only [exP, stP, p1, p2, pr, pobj, parr, sh0, sh1, sh2, sh3, sh4, sh5, sh6, sh7, sh8, sh9, sh10, sh11, sh12, sh13, sh14, sh15, sh16, sh17, sh18, sh19, sh20, sh21, sh22, sh23, sh24, sh25, sh26, sh27, sh28, sh29, sh30, sh31, sh32, sh33, sh34, sh35, sh36, sh37, sh38, sh39, sh40, sh41, sh42, sh43, sh44, sh45, sh46, sh47, sh48, sh49, sh50, sh51, sh52, sh53, sh54, sh55, sh56, sh57, sh58, sh59, brP, brN, swP, amask, apush, List.getElem?_cons_zero, List.getElem?_cons_succ, List.set_cons_zero, List.set_cons_succ, List.take_succ_cons, List.take_zero, List.drop_succ_cons, List.drop_zero, List.reverse_cons, List.reverse_nil, List.nil_append, List.cons_append, List.length_cons, List.length_nil, true_and, and_true, Nat.zero_le, Nat.reduceLeDiff, Nat.reduceAdd, Nat.reduceEqDiff, false_imp_iff, true_imp_iff, not_false_eq_true, not_true_eq_false, imp_self, forall_const, true_or]
    refine st_X1_keepBetter_62 ?_; simp only [bX1_keepBetter_62, exP, stP, p1, p2, pr, pobj, parr, sh0, sh1, sh2, sh3, sh4, sh5, sh6, sh7, sh8, sh9, sh10, sh11, sh12, sh13, sh14, sh15, sh16, sh17, sh18, sh19, sh20, sh21, sh22, sh23, sh24, sh25, sh26, sh27, sh28, sh29, sh30, sh31, sh32, sh33, sh34, sh35, sh36, sh37, sh38, sh39, sh40, sh41, sh42, sh43, sh44, sh45, sh46, sh47, sh48, sh49, sh50, sh51, sh52, sh53, sh54, sh55, sh56, sh57, sh58, sh59, brP, brN, swP, amask, apush, List.getElem?_cons_zero, List.getElem?_cons_succ, List.set_cons_zero, List.set_cons_succ, List.take_succ_cons, List.take_zero, List.drop_succ_cons, List.drop_zero, List.reverse_cons, List.reverse_nil, List.nil_append, List.cons_append, List.length_cons, List.length_nil, true_and, and_true, Nat.zero_le, Nat.reduceLeDiff, Nat.reduceAdd, Nat.reduceEqDiff, false_imp_iff, true_imp_iff, not_false_eq_true, not_true_eq_false, imp_self, forall_const]
    rw [e26] at hwx
    refine ⟨rfl, fun j hj => by rw [aup_ne hj, aup_ne hj], x, Or.inl rfl, ⟨hx, ?_, ?_⟩, nw_refl _ _, h⟩
    · rw [aup_eq, upd_ne (by omega), aup_eq, upd_eq]
    · rw [aup_eq, upd_eq]; exact hwx
  have cmp : ∀ p q : Int32, ((if p < q then (-1 : Int32) else if p = q then 0 else 1) < 0 ↔ p.toInt < q.toInt) ∧ ((if p < q then (-1 : Int32) else if p = q then 0 else 1) = 0 ↔ p.toInt = q.toInt) := by
    intro p q
    rw [← Int32.lt_iff_toInt_lt, Int32.toInt_inj]
    by_cases h1 : p < q
    · rw [if_pos h1]
      have h2 : ¬ p = q := fun h => by rw [h, Int32.lt_iff_toInt_lt] at h1; omega
      simp [h1, h2]
    · rw [if_neg h1]
      by_cases h2 : p = q
      · rw [if_pos h2]; simp [h1, h2]
      · rw [if_neg h2]; simp [h1, h2]
  have ti : ∀ n : Nat, n < 4096 → (nI n).toInt = n := fun n hn => nI_toInt (by omega)
  refine st_X1_keepBetter_0 ?_; simp only [bX1_keepBetter_0, exP, stP, p1, p2, pr, pobj, parr, sh0, sh1, sh2, sh3, sh4, sh5, sh6, sh7, sh8, sh9, sh10, sh11, sh12, sh13, sh14, sh15, sh16, sh17, sh18, sh19, sh20, sh21, sh22, sh23, sh24, sh25, sh26, sh27, sh28, sh29, sh30, sh31, sh32, sh33, sh34, sh35, sh36, sh37, sh38, sh39, sh40, sh41, sh42, sh43, sh44, sh45, sh46, sh47, sh48, sh49, sh50, sh51, sh52, sh53, sh54, sh55, sh56, sh57, sh58, sh59, brP, brN, swP, amask, apush, List.getElem?_cons_zero, List.getElem?_cons_succ, List.set_cons_zero, List.set_cons_succ, List.take_succ_cons, List.take_zero, List.drop_succ_cons, List.drop_zero, List.reverse_cons, List.reverse_nil, List.nil_append, List.cons_append, List.length_cons, List.length_nil, true_and, and_true, Nat.zero_le, Nat.reduceLeDiff, Nat.reduceAdd, Nat.reduceEqDiff, false_imp_iff, true_imp_iff, not_false_eq_true, not_true_eq_false, imp_self, forall_const]
  refine ⟨_, ⟨1, by decide, c_weigh m hw x hx2⟩, ?_⟩
  rintro z u ⟨rfl, wx, rfl, hwx⟩
  simp only [exP, stP, p1, p2, pr, pobj, parr, sh0, sh1, sh2, sh3, sh4, sh5, sh6, sh7, sh8, sh9, sh10, sh11, sh12, sh13, sh14, sh15, sh16, sh17, sh18, sh19, sh20, sh21, sh22, sh23, sh24, sh25, sh26, sh27, sh28, sh29, sh30, sh31, sh32, sh33, sh34, sh35, sh36, sh37, sh38, sh39, sh40, sh41, sh42, sh43, sh44, sh45, sh46, sh47, sh48, sh49, sh50, sh51, sh52, sh53, sh54, sh55, sh56, sh57, sh58, sh59, brP, brN, swP, amask, apush, List.getElem?_cons_zero, List.getElem?_cons_succ, List.set_cons_zero, List.set_cons_succ, List.take_succ_cons, List.take_zero, List.drop_succ_cons, List.drop_zero, List.reverse_cons, List.reverse_nil, List.nil_append, List.cons_append, List.length_cons, List.length_nil, true_and, and_true, Nat.zero_le, Nat.reduceLeDiff, Nat.reduceAdd, Nat.reduceEqDiff, false_imp_iff, true_imp_iff, not_false_eq_true, not_true_eq_false, imp_self, forall_const]
  refine ⟨_, ⟨0, by decide, c_compare m wx (m 25 3)⟩, ?_⟩
  rintro z u ⟨rfl, rfl⟩
  simp only [exP, stP, p1, p2, pr, pobj, parr, sh0, sh1, sh2, sh3, sh4, sh5, sh6, sh7, sh8, sh9, sh10, sh11, sh12, sh13, sh14, sh15, sh16, sh17, sh18, sh19, sh20, sh21, sh22, sh23, sh24, sh25, sh26, sh27, sh28, sh29, sh30, sh31, sh32, sh33, sh34, sh35, sh36, sh37, sh38, sh39, sh40, sh41, sh42, sh43, sh44, sh45, sh46, sh47, sh48, sh49, sh50, sh51, sh52, sh53, sh54, sh55, sh56, sh57, sh58, sh59, brP, brN, swP, amask, apush, List.getElem?_cons_zero, List.getElem?_cons_succ, List.set_cons_zero, List.set_cons_succ, List.take_succ_cons, List.take_zero, List.drop_succ_cons, List.drop_zero, List.reverse_cons, List.reverse_nil, List.nil_append, List.cons_append, List.length_cons, List.length_nil, true_and, and_true, Nat.zero_le, Nat.reduceLeDiff, Nat.reduceAdd, Nat.reduceEqDiff, false_imp_iff, true_imp_iff, not_false_eq_true, not_true_eq_false, imp_self, forall_const]
  have cw := cmp wx (m 25 3)
  generalize (if wx < m 25 3 then (-1 : Int32) else if wx = m 25 3 then 0 else 1) = o at cw ⊢
  refine ⟨fun c => ?_, fun c => ?_⟩
  · have hne : wx.toInt ≠ (m 25 3).toInt := fun h => c (cw.2.mpr h)
    refine st_X1_keepBetter_32 ?_; simp only [bX1_keepBetter_32, exP, stP, p1, p2, pr, pobj, parr, sh0, sh1, sh2, sh3, sh4, sh5, sh6, sh7, sh8, sh9, sh10, sh11, sh12, sh13, sh14, sh15, sh16, sh17, sh18, sh19, sh20, sh21, sh22, sh23, sh24, sh25, sh26, sh27, sh28, sh29, sh30, sh31, sh32, sh33, sh34, sh35, sh36, sh37, sh38, sh39, sh40, sh41, sh42, sh43, sh44, sh45, sh46, sh47, sh48, sh49, sh50, sh51, sh52, sh53, sh54, sh55, sh56, sh57, sh58, sh59, brP, brN, swP, amask, apush, List.getElem?_cons_zero, List.getElem?_cons_succ, List.set_cons_zero, List.set_cons_succ, List.take_succ_cons, List.take_zero, List.drop_succ_cons, List.drop_zero, List.reverse_cons, List.reverse_nil, List.nil_append, List.cons_append, List.length_cons, List.length_nil, true_and, and_true, Nat.zero_le, Nat.reduceLeDiff, Nat.reduceAdd, Nat.reduceEqDiff, false_imp_iff, true_imp_iff, not_false_eq_true, not_true_eq_false, imp_self, forall_const]
    refine ⟨fun c1 => take ?_, fun c1 => ?_⟩
    · have := cw.1.mp c1
      unfold nw; omega
    · have hge : ¬ wx.toInt < (m 25 3).toInt := fun h => c1 (cw.1.mpr h)
      refine st_X1_keepBetter_36 ?_; simp only [bX1_keepBetter_36, exP, stP, p1, p2, pr, pobj, parr, sh0, sh1, sh2, sh3, sh4, sh5, sh6, sh7, sh8, sh9, sh10, sh11, sh12, sh13, sh14, sh15, sh16, sh17, sh18, sh19, sh20, sh21, sh22, sh23, sh24, sh25, sh26, sh27, sh28, sh29, sh30, sh31, sh32, sh33, sh34, sh35, sh36, sh37, sh38, sh39, sh40, sh41, sh42, sh43, sh44, sh45, sh46, sh47, sh48, sh49, sh50, sh51, sh52, sh53, sh54, sh55, sh56, sh57, sh58, sh59, brP, brN, swP, amask, apush, List.getElem?_cons_zero, List.getElem?_cons_succ, List.set_cons_zero, List.set_cons_succ, List.take_succ_cons, List.take_zero, List.drop_succ_cons, List.drop_zero, List.reverse_cons, List.reverse_nil, List.nil_append, List.cons_append, List.length_cons, List.length_nil, true_and, and_true, Nat.zero_le, Nat.reduceLeDiff, Nat.reduceAdd, Nat.reduceEqDiff, false_imp_iff, true_imp_iff, not_false_eq_true, not_true_eq_false, imp_self, forall_const, c]
      refine stay ?_
      unfold nw; omega
  · have heq := cw.2.mp c
    refine st_X1_keepBetter_17 ?_; simp only [bX1_keepBetter_17, exP, stP, p1, p2, pr, pobj, parr, sh0, sh1, sh2, sh3, sh4, sh5, sh6, sh7, sh8, sh9, sh10, sh11, sh12, sh13, sh14, sh15, sh16, sh17, sh18, sh19, sh20, sh21, sh22, sh23, sh24, sh25, sh26, sh27, sh28, sh29, sh30, sh31, sh32, sh33, sh34, sh35, sh36, sh37, sh38, sh39, sh40, sh41, sh42, sh43, sh44, sh45, sh46, sh47, sh48, sh49, sh50, sh51, sh52, sh53, sh54, sh55, sh56, sh57, sh58, sh59, brP, brN, swP, amask, apush, List.getElem?_cons_zero, List.getElem?_cons_succ, List.set_cons_zero, List.set_cons_succ, List.take_succ_cons, List.take_zero, List.drop_succ_cons, List.drop_zero, List.reverse_cons, List.reverse_nil, List.nil_append, List.cons_append, List.length_cons, List.length_nil, true_and, and_true, Nat.zero_le, Nat.reduceLeDiff, Nat.reduceAdd, Nat.reduceEqDiff, false_imp_iff, true_imp_iff, not_false_eq_true, not_true_eq_false, imp_self, forall_const]
    refine ⟨_, ⟨0, by decide, c_bitCount m (nI x)⟩, ?_⟩
    rintro z u ⟨rfl, rfl⟩
    simp only [exP, stP, p1, p2, pr, pobj, parr, sh0, sh1, sh2, sh3, sh4, sh5, sh6, sh7, sh8, sh9, sh10, sh11, sh12, sh13, sh14, sh15, sh16, sh17, sh18, sh19, sh20, sh21, sh22, sh23, sh24, sh25, sh26, sh27, sh28, sh29, sh30, sh31, sh32, sh33, sh34, sh35, sh36, sh37, sh38, sh39, sh40, sh41, sh42, sh43, sh44, sh45, sh46, sh47, sh48, sh49, sh50, sh51, sh52, sh53, sh54, sh55, sh56, sh57, sh58, sh59, brP, brN, swP, amask, apush, List.getElem?_cons_zero, List.getElem?_cons_succ, List.set_cons_zero, List.set_cons_succ, List.take_succ_cons, List.take_zero, List.drop_succ_cons, List.drop_zero, List.reverse_cons, List.reverse_nil, List.nil_append, List.cons_append, List.length_cons, List.length_nil, true_and, and_true, Nat.zero_le, Nat.reduceLeDiff, Nat.reduceAdd, Nat.reduceEqDiff, false_imp_iff, true_imp_iff, not_false_eq_true, not_true_eq_false, imp_self, forall_const]
    refine ⟨_, ⟨0, by decide, c_bitCount m (m 25 2)⟩, ?_⟩
    rintro z u ⟨rfl, rfl⟩
    simp only [exP, stP, p1, p2, pr, pobj, parr, sh0, sh1, sh2, sh3, sh4, sh5, sh6, sh7, sh8, sh9, sh10, sh11, sh12, sh13, sh14, sh15, sh16, sh17, sh18, sh19, sh20, sh21, sh22, sh23, sh24, sh25, sh26, sh27, sh28, sh29, sh30, sh31, sh32, sh33, sh34, sh35, sh36, sh37, sh38, sh39, sh40, sh41, sh42, sh43, sh44, sh45, sh46, sh47, sh48, sh49, sh50, sh51, sh52, sh53, sh54, sh55, sh56, sh57, sh58, sh59, brP, brN, swP, amask, apush, List.getElem?_cons_zero, List.getElem?_cons_succ, List.set_cons_zero, List.set_cons_succ, List.take_succ_cons, List.take_zero, List.drop_succ_cons, List.drop_zero, List.reverse_cons, List.reverse_nil, List.nil_append, List.cons_append, List.length_cons, List.length_nil, true_and, and_true, Nat.zero_le, Nat.reduceLeDiff, Nat.reduceAdd, Nat.reduceEqDiff, false_imp_iff, true_imp_iff, not_false_eq_true, not_true_eq_false, imp_self, forall_const]
    refine ⟨_, ⟨0, by decide, c_compare m _ _⟩, ?_⟩
    rintro z u ⟨rfl, rfl⟩
    simp only [exP, stP, p1, p2, pr, pobj, parr, sh0, sh1, sh2, sh3, sh4, sh5, sh6, sh7, sh8, sh9, sh10, sh11, sh12, sh13, sh14, sh15, sh16, sh17, sh18, sh19, sh20, sh21, sh22, sh23, sh24, sh25, sh26, sh27, sh28, sh29, sh30, sh31, sh32, sh33, sh34, sh35, sh36, sh37, sh38, sh39, sh40, sh41, sh42, sh43, sh44, sh45, sh46, sh47, sh48, sh49, sh50, sh51, sh52, sh53, sh54, sh55, sh56, sh57, sh58, sh59, brP, brN, swP, amask, apush, List.getElem?_cons_zero, List.getElem?_cons_succ, List.set_cons_zero, List.set_cons_succ, List.take_succ_cons, List.take_zero, List.drop_succ_cons, List.drop_zero, List.reverse_cons, List.reverse_nil, List.nil_append, List.cons_append, List.length_cons, List.length_nil, true_and, and_true, Nat.zero_le, Nat.reduceLeDiff, Nat.reduceAdd, Nat.reduceEqDiff, false_imp_iff, true_imp_iff, not_false_eq_true, not_true_eq_false, imp_self, forall_const]
    rw [hb1, bc_sz hx2, bc_sz hb3]
    have cs := cmp (nI (sz x)) (nI (sz b))
    rw [ti (sz x) (by omega), ti (sz b) (by omega)] at cs
    generalize (if nI (sz x) < nI (sz b) then (-1 : Int32) else if nI (sz x) = nI (sz b) then 0 else 1) = o2 at cs ⊢
    refine st_X1_keepBetter_32 ?_; simp only [bX1_keepBetter_32, exP, stP, p1, p2, pr, pobj, parr, sh0, sh1, sh2, sh3, sh4, sh5, sh6, sh7, sh8, sh9, sh10, sh11, sh12, sh13, sh14, sh15, sh16, sh17, sh18, sh19, sh20, sh21, sh22, sh23, sh24, sh25, sh26, sh27, sh28, sh29, sh30, sh31, sh32, sh33, sh34, sh35, sh36, sh37, sh38, sh39, sh40, sh41, sh42, sh43, sh44, sh45, sh46, sh47, sh48, sh49, sh50, sh51, sh52, sh53, sh54, sh55, sh56, sh57, sh58, sh59, brP, brN, swP, amask, apush, List.getElem?_cons_zero, List.getElem?_cons_succ, List.set_cons_zero, List.set_cons_succ, List.take_succ_cons, List.take_zero, List.drop_succ_cons, List.drop_zero, List.reverse_cons, List.reverse_nil, List.nil_append, List.cons_append, List.length_cons, List.length_nil, true_and, and_true, Nat.zero_le, Nat.reduceLeDiff, Nat.reduceAdd, Nat.reduceEqDiff, false_imp_iff, true_imp_iff, not_false_eq_true, not_true_eq_false, imp_self, forall_const]
    refine ⟨fun c1 => take ?_, fun c1 => ?_⟩
    · have := cs.1.mp c1
      unfold nw; omega
    · have hge : ¬ (sz x : Int) < (sz b : Int) := fun h => c1 (cs.1.mpr h)
      refine st_X1_keepBetter_36 ?_; simp only [bX1_keepBetter_36, exP, stP, p1, p2, pr, pobj, parr, sh0, sh1, sh2, sh3, sh4, sh5, sh6, sh7, sh8, sh9, sh10, sh11, sh12, sh13, sh14, sh15, sh16, sh17, sh18, sh19, sh20, sh21, sh22, sh23, sh24, sh25, sh26, sh27, sh28, sh29, sh30, sh31, sh32, sh33, sh34, sh35, sh36, sh37, sh38, sh39, sh40, sh41, sh42, sh43, sh44, sh45, sh46, sh47, sh48, sh49, sh50, sh51, sh52, sh53, sh54, sh55, sh56, sh57, sh58, sh59, brP, brN, swP, amask, apush, List.getElem?_cons_zero, List.getElem?_cons_succ, List.set_cons_zero, List.set_cons_succ, List.take_succ_cons, List.take_zero, List.drop_succ_cons, List.drop_zero, List.reverse_cons, List.reverse_nil, List.nil_append, List.cons_append, List.length_cons, List.length_nil, true_and, and_true, Nat.zero_le, Nat.reduceLeDiff, Nat.reduceAdd, Nat.reduceEqDiff, false_imp_iff, true_imp_iff, not_false_eq_true, not_true_eq_false, imp_self, forall_const]
      refine ⟨fun c2 => stay ?_, fun c2 => ?_⟩
      · have hne : (sz x : Int) ≠ (sz b : Int) := fun h => c2 (cs.2.mpr h)
        unfold nw; omega
      · have hse := cs.2.mp c2
        refine st_X1_keepBetter_40 ?_; simp only [bX1_keepBetter_40, exP, stP, p1, p2, pr, pobj, parr, sh0, sh1, sh2, sh3, sh4, sh5, sh6, sh7, sh8, sh9, sh10, sh11, sh12, sh13, sh14, sh15, sh16, sh17, sh18, sh19, sh20, sh21, sh22, sh23, sh24, sh25, sh26, sh27, sh28, sh29, sh30, sh31, sh32, sh33, sh34, sh35, sh36, sh37, sh38, sh39, sh40, sh41, sh42, sh43, sh44, sh45, sh46, sh47, sh48, sh49, sh50, sh51, sh52, sh53, sh54, sh55, sh56, sh57, sh58, sh59, brP, brN, swP, amask, apush, List.getElem?_cons_zero, List.getElem?_cons_succ, List.set_cons_zero, List.set_cons_succ, List.take_succ_cons, List.take_zero, List.drop_succ_cons, List.drop_zero, List.reverse_cons, List.reverse_nil, List.nil_append, List.cons_append, List.length_cons, List.length_nil, true_and, and_true, Nat.zero_le, Nat.reduceLeDiff, Nat.reduceAdd, Nat.reduceEqDiff, false_imp_iff, true_imp_iff, not_false_eq_true, not_true_eq_false, imp_self, forall_const]
        rw [hb1]
        refine ⟨fun c3 => stay ?_, fun c3 => take ?_⟩
        · rw [Int32.le_iff_toInt_le, ti x hx2, ti b hb3] at c3
          unfold nw; omega
        · rw [Int32.le_iff_toInt_le, ti x hx2, ti b hb3] at c3
          unfold nw; omega
def vld (m : AM) (A X : Nat) : Prop := sub X A ∧ agr (nF m) (nL m) (nC m) (dif A X)
theorem SM.vld {m u : AM} (h : SM m u) (A X : Nat) : vld u A X = vld m A X := by show (sub X A ∧ agr (nF u) (nL u) (nC u) (dif A X)) = (sub X A ∧ agr (nF m) (nL m) (nC m) (dif A X)); rw [h.eF, h.eL, h.eC]
def FQ (m : AM) (A gone held b : Nat) : APost := fun z u => z = none ∧ SM m u ∧ ∃ b', SB m u b' ∧ vld m A b' ∧ nw (wtm m) b' b ∧ ∀ X, vld m A X → sub gone X → (∀ i, held.testBit i = true → X.testBit i = false) → nw (wtm m) b' X
theorem or_bit {f j : Nat} (hf : f < 4096) (hj : j < 12) : nI f ||| nI (2 ^ j) = nI (insB f j) := by
  rw [← or_shl hf hj]
  congr 1
  apply b_ext
  intro i hi
  have h2 : 2 ^ j < 2 ^ 12 := Nat.pow_lt_pow_right (by omega) hj
  rw [bt_shl1 (by omega) hi, bt_nI (by omega), Nat.testBit_two_pow]
  by_cases q : j = i
  · subst q; simp
  · have q2 : ¬ i = j := fun r => q r.symm
    simp [q, q2]
theorem shl_pow {j : Nat} (hj : j < 12) : ((1 : Int32) <<< (nI j &&& 31)) = nI (2 ^ j) := by
  apply b_ext
  intro i hi
  have h2 : 2 ^ j < 2 ^ 12 := Nat.pow_lt_pow_right (by omega) hj
  rw [bt_shl1 (by omega) hi, bt_nI (by omega), Nat.testBit_two_pow]
  by_cases q : j = i
  · subst q; simp
  · have q2 : ¬ i = j := fun r => q r.symm
    simp [q, q2]
theorem and3_0 {C T j : Nat} (hC : C < 4096) (hT : T < 4096) (hj : j < 12) : (nI C &&& (nI T ^^^ (-1)) &&& nI (2 ^ j) = 0) ↔ ¬ (C.testBit j = true ∧ T.testBit j = false) := by
  have h2 : 2 ^ j < 2 ^ 12 := Nat.pow_lt_pow_right (by omega) hj
  constructor
  · intro h hh
    have h3 : bt (nI C &&& (nI T ^^^ (-1)) &&& nI (2 ^ j)) j = true := by
      rw [b_and, b_and, bt_not _ (by omega), bt_nI (by omega), bt_nI (by omega), bt_nI (by omega), Nat.testBit_two_pow, hh.1, hh.2]
      simp
    rw [h, b_0] at h3
    cases h3
  · intro h
    apply b_ext
    intro i hi
    rw [b_and, b_and, bt_not _ hi, bt_nI (by omega), bt_nI (by omega), bt_nI (by omega), Nat.testBit_two_pow, b_0]
    by_cases q : j = i
    · subst q
      cases hc : C.testBit j <;> cases ht : T.testBit j <;> simp_all
    · simp [q]
theorem SB.cast {m u v : AM} {b : Nat} (hS : SB m v b) (h : SM m u) : SB u v b := by
  obtain ⟨h1, h2, h3⟩ := hS
  exact ⟨h1, h2, by rw [h.eW]; exact h3⟩
theorem SB.back {m u v : AM} {b : Nat} (hS : SB u v b) (h : SM m u) : SB m v b := by
  obtain ⟨h1, h2, h3⟩ := hS
  exact ⟨h1, h2, by rw [← h.eW]; exact h3⟩
theorem forge_core (A : Nat) (hA : low12 A) (D D' : Nat) (hD : 4 ≤ D') (hDD : D' < D) (m : AM) (gone held b : Nat) (hm : TW m) (hw : WOK m) (hpos : ∀ i, A.testBit i = true → 1 ≤ wtm m i) (hgA : sub gone A) (hheld : low12 held) (hS : SB m m b) (hv : vld m A b)
    (rec : ∀ (u : AM) (gone' held' b' : Nat), TW u → WOK u → (∀ i, A.testBit i = true → 1 ≤ wtm u i) → sz gone' = sz gone + 1 → sub gone' A → low12 held' → SB u u b' → vld u A b' → AC D' kX1_forge [.inr 25, .inl (nI (dif A gone')), .inl (nI gone'), .inl (nI held'), .inl (nI (sz gone'))] u (FQ u A gone' held' b')) :
    AC D kX1_forge [.inr 25, .inl (nI (dif A gone)), .inl (nI gone), .inl (nI held), .inl (nI (sz gone))] m (FQ m A gone held b) := by
  have hg12 : low12 gone := fun i hi => hA i (hgA i hi)
  have hg := low12_lt hg12
  have hl12 : low12 (dif A gone) := fun i hi => by rw [dif_bit] at hi; simp at hi; exact hA i hi.1
  have hl := low12_lt hl12
  have hszg : sz gone ≤ 12 := pcN_le gone 12
  have hheld2 := low12_lt hheld
  refine AC_of own_X1_forge (ls := [some (.inr 25), some (.inl (nI (dif A gone))), some (.inl (nI gone)), some (.inl (nI held)), some (.inl (nI (sz gone))), none, none, none, none]) (z := 4) (Nat.le_of_ble_eq_true rfl) rfl ?_
  refine st_X1_forge_0 ?_; simp only [bX1_forge_0, exP, stP, p1, p2, pr, pobj, parr, sh0, sh1, sh2, sh3, sh4, sh5, sh6, sh7, sh8, sh9, sh10, sh11, sh12, sh13, sh14, sh15, sh16, sh17, sh18, sh19, sh20, sh21, sh22, sh23, sh24, sh25, sh26, sh27, sh28, sh29, sh30, sh31, sh32, sh33, sh34, sh35, sh36, sh37, sh38, sh39, sh40, sh41, sh42, sh43, sh44, sh45, sh46, sh47, sh48, sh49, sh50, sh51, sh52, sh53, sh54, sh55, sh56, sh57, sh58, sh59, brP, brN, swP, amask, apush, List.getElem?_cons_zero, List.getElem?_cons_succ, List.set_cons_zero, List.set_cons_succ, List.take_succ_cons, List.take_zero, List.drop_succ_cons, List.drop_zero, List.reverse_cons, List.reverse_nil, List.nil_append, List.cons_append, List.length_cons, List.length_nil, true_and, and_true, Nat.zero_le, Nat.reduceLeDiff, Nat.reduceAdd, Nat.reduceEqDiff, false_imp_iff, true_imp_iff, not_false_eq_true, not_true_eq_false, imp_self, forall_const, lit_nlt (k := 12) (n := sz gone) hszg (by omega)]
  refine st_X1_forge_7 ?_; simp only [bX1_forge_7, exP, stP, p1, p2, pr, pobj, parr, sh0, sh1, sh2, sh3, sh4, sh5, sh6, sh7, sh8, sh9, sh10, sh11, sh12, sh13, sh14, sh15, sh16, sh17, sh18, sh19, sh20, sh21, sh22, sh23, sh24, sh25, sh26, sh27, sh28, sh29, sh30, sh31, sh32, sh33, sh34, sh35, sh36, sh37, sh38, sh39, sh40, sh41, sh42, sh43, sh44, sh45, sh46, sh47, sh48, sh49, sh50, sh51, sh52, sh53, sh54, sh55, sh56, sh57, sh58, sh59, brP, brN, swP, amask, apush, List.getElem?_cons_zero, List.getElem?_cons_succ, List.set_cons_zero, List.set_cons_succ, List.take_succ_cons, List.take_zero, List.drop_succ_cons, List.drop_zero, List.reverse_cons, List.reverse_nil, List.nil_append, List.cons_append, List.length_cons, List.length_nil, true_and, and_true, Nat.zero_le, Nat.reduceLeDiff, Nat.reduceAdd, Nat.reduceEqDiff, false_imp_iff, true_imp_iff, not_false_eq_true, not_true_eq_false, imp_self, forall_const]
  refine ⟨_, ⟨1, by omega, c_weigh m hw gone hg⟩, ?_⟩
  rintro z u ⟨rfl, wg, rfl, hwg⟩
  simp only [exP, stP, p1, p2, pr, pobj, parr, sh0, sh1, sh2, sh3, sh4, sh5, sh6, sh7, sh8, sh9, sh10, sh11, sh12, sh13, sh14, sh15, sh16, sh17, sh18, sh19, sh20, sh21, sh22, sh23, sh24, sh25, sh26, sh27, sh28, sh29, sh30, sh31, sh32, sh33, sh34, sh35, sh36, sh37, sh38, sh39, sh40, sh41, sh42, sh43, sh44, sh45, sh46, sh47, sh48, sh49, sh50, sh51, sh52, sh53, sh54, sh55, sh56, sh57, sh58, sh59, brP, brN, swP, amask, apush, List.getElem?_cons_zero, List.getElem?_cons_succ, List.set_cons_zero, List.set_cons_succ, List.take_succ_cons, List.take_zero, List.drop_succ_cons, List.drop_zero, List.reverse_cons, List.reverse_nil, List.nil_append, List.cons_append, List.length_cons, List.length_nil, true_and, and_true, Nat.zero_le, Nat.reduceLeDiff, Nat.reduceAdd, Nat.reduceEqDiff, false_imp_iff, true_imp_iff, not_false_eq_true, not_true_eq_false, imp_self, forall_const]
  refine ⟨fun c => ?_, fun c => ?_⟩
  · -- the set isn't too heavy
    refine st_X1_forge_20 ?_; simp only [bX1_forge_20, exP, stP, p1, p2, pr, pobj, parr, sh0, sh1, sh2, sh3, sh4, sh5, sh6, sh7, sh8, sh9, sh10, sh11, sh12, sh13, sh14, sh15, sh16, sh17, sh18, sh19, sh20, sh21, sh22, sh23, sh24, sh25, sh26, sh27, sh28, sh29, sh30, sh31, sh32, sh33, sh34, sh35, sh36, sh37, sh38, sh39, sh40, sh41, sh42, sh43, sh44, sh45, sh46, sh47, sh48, sh49, sh50, sh51, sh52, sh53, sh54, sh55, sh56, sh57, sh58, sh59, brP, brN, swP, amask, apush, List.getElem?_cons_zero, List.getElem?_cons_succ, List.set_cons_zero, List.set_cons_succ, List.take_succ_cons, List.take_zero, List.drop_succ_cons, List.drop_zero, List.reverse_cons, List.reverse_nil, List.nil_append, List.cons_append, List.length_cons, List.length_nil, true_and, and_true, Nat.zero_le, Nat.reduceLeDiff, Nat.reduceAdd, Nat.reduceEqDiff, false_imp_iff, true_imp_iff, not_false_eq_true, not_true_eq_false, imp_self, forall_const]
    refine ⟨_, ⟨3, by omega, c_conflictIn m hm (dif A gone) hl⟩, ?_⟩
    rintro z u ⟨hRM, hz⟩
    have hSM := hRM.sm
    have hSu : SB m u b := by
      obtain ⟨h1, h2, h3⟩ := hS
      have e := hRM.1 25 (by omega) (by omega) (by omega) (by omega)
      exact ⟨h1, by rw [e]; exact h2, by rw [e]; exact h3⟩
    rcases hz with ⟨rfl, hag⟩ | ⟨C, rfl, hC, hC0, hCl, hCn⟩
    · simp only [exP, stP, p1, p2, pr, pobj, parr, sh0, sh1, sh2, sh3, sh4, sh5, sh6, sh7, sh8, sh9, sh10, sh11, sh12, sh13, sh14, sh15, sh16, sh17, sh18, sh19, sh20, sh21, sh22, sh23, sh24, sh25, sh26, sh27, sh28, sh29, sh30, sh31, sh32, sh33, sh34, sh35, sh36, sh37, sh38, sh39, sh40, sh41, sh42, sh43, sh44, sh45, sh46, sh47, sh48, sh49, sh50, sh51, sh52, sh53, sh54, sh55, sh56, sh57, sh58, sh59, brP, brN, swP, amask, apush, List.getElem?_cons_zero, List.getElem?_cons_succ, List.set_cons_zero, List.set_cons_succ, List.take_succ_cons, List.take_zero, List.drop_succ_cons, List.drop_zero, List.reverse_cons, List.reverse_nil, List.nil_append, List.cons_append, List.length_cons, List.length_nil, true_and, and_true, Nat.zero_le, Nat.reduceLeDiff, Nat.reduceAdd, Nat.reduceEqDiff, false_imp_iff, true_imp_iff, not_false_eq_true, not_true_eq_false, imp_self, forall_const]
      refine st_X1_forge_35 ?_; simp only [bX1_forge_35, exP, stP, p1, p2, pr, pobj, parr, sh0, sh1, sh2, sh3, sh4, sh5, sh6, sh7, sh8, sh9, sh10, sh11, sh12, sh13, sh14, sh15, sh16, sh17, sh18, sh19, sh20, sh21, sh22, sh23, sh24, sh25, sh26, sh27, sh28, sh29, sh30, sh31, sh32, sh33, sh34, sh35, sh36, sh37, sh38, sh39, sh40, sh41, sh42, sh43, sh44, sh45, sh46, sh47, sh48, sh49, sh50, sh51, sh52, sh53, sh54, sh55, sh56, sh57, sh58, sh59, brP, brN, swP, amask, apush, List.getElem?_cons_zero, List.getElem?_cons_succ, List.set_cons_zero, List.set_cons_succ, List.take_succ_cons, List.take_zero, List.drop_succ_cons, List.drop_zero, List.reverse_cons, List.reverse_nil, List.nil_append, List.cons_append, List.length_cons, List.length_nil, true_and, and_true, Nat.zero_le, Nat.reduceLeDiff, Nat.reduceAdd, Nat.reduceEqDiff, false_imp_iff, true_imp_iff, not_false_eq_true, not_true_eq_false, imp_self, forall_const]
      refine ⟨_, ⟨2, by omega, c_keepBetter u (hSM.wok hw) gone b hg12 (hSu.cast hSM)⟩, ?_⟩
      rintro z v ⟨rfl, hv1, b', hb', hSb, hn1, hn2⟩
      simp only [exP, stP, p1, p2, pr, pobj, parr, sh0, sh1, sh2, sh3, sh4, sh5, sh6, sh7, sh8, sh9, sh10, sh11, sh12, sh13, sh14, sh15, sh16, sh17, sh18, sh19, sh20, sh21, sh22, sh23, sh24, sh25, sh26, sh27, sh28, sh29, sh30, sh31, sh32, sh33, sh34, sh35, sh36, sh37, sh38, sh39, sh40, sh41, sh42, sh43, sh44, sh45, sh46, sh47, sh48, sh49, sh50, sh51, sh52, sh53, sh54, sh55, sh56, sh57, sh58, sh59, brP, brN, swP, amask, apush, List.getElem?_cons_zero, List.getElem?_cons_succ, List.set_cons_zero, List.set_cons_succ, List.take_succ_cons, List.take_zero, List.drop_succ_cons, List.drop_zero, List.reverse_cons, List.reverse_nil, List.nil_append, List.cons_append, List.length_cons, List.length_nil, true_and, and_true, Nat.zero_le, Nat.reduceLeDiff, Nat.reduceAdd, Nat.reduceEqDiff, false_imp_iff, true_imp_iff, not_false_eq_true, not_true_eq_false, imp_self, forall_const]
      rw [hSM.eW] at hn1 hn2
      have hSMv : SM m v := hSM.tr ⟨fun j _ _ _ _ j5 => hv1 j j5, fun j _ => by rw [hv1 15 (by omega)]⟩
      refine ⟨rfl, hSMv, b', hSb.back hSM, ?_, hn2, fun X hX hgX _ => ?_⟩
      · rcases hb' with rfl | rfl
        · exact ⟨hgA, hag⟩
        · exact hv
      · refine nw_trans hn1 (nw_sub (fun i _ hi => hpos i (hX.1 i hi)) hg12 (fun i hi => hA i (hX.1 i hi)) hgX)
    · have hCne : ¬ nI C = 0 := fun q => hC0 (by
        have h1 := nI_eq (a := C) (b := 0) (by have := low12_lt hC; omega) (by omega)
        exact h1.mp (by rw [q]; rfl))
      have hClt := low12_lt hC
      simp only [exP, stP, p1, p2, pr, pobj, parr, sh0, sh1, sh2, sh3, sh4, sh5, sh6, sh7, sh8, sh9, sh10, sh11, sh12, sh13, sh14, sh15, sh16, sh17, sh18, sh19, sh20, sh21, sh22, sh23, sh24, sh25, sh26, sh27, sh28, sh29, sh30, sh31, sh32, sh33, sh34, sh35, sh36, sh37, sh38, sh39, sh40, sh41, sh42, sh43, sh44, sh45, sh46, sh47, sh48, sh49, sh50, sh51, sh52, sh53, sh54, sh55, sh56, sh57, sh58, sh59, brP, brN, swP, amask, apush, List.getElem?_cons_zero, List.getElem?_cons_succ, List.set_cons_zero, List.set_cons_succ, List.take_succ_cons, List.take_zero, List.drop_succ_cons, List.drop_zero, List.reverse_cons, List.reverse_nil, List.nil_append, List.cons_append, List.length_cons, List.length_nil, true_and, and_true, Nat.zero_le, Nat.reduceLeDiff, Nat.reduceAdd, Nat.reduceEqDiff, false_imp_iff, true_imp_iff, not_false_eq_true, not_true_eq_false, imp_self, forall_const, hCne]
      have loop : ∀ (k j tried b' : Nat) (u : AM), j + k = 12 → SM m u → SB m u b' → vld m A b' → nw (wtm m) b' b → low12 tried → (∀ i, tried.testBit i = true ↔ (held.testBit i = true ∨ (i < j ∧ C.testBit i = true))) → (∀ X, vld m A X → sub gone X → (∀ i, held.testBit i = true → X.testBit i = false) → (∃ i, i < j ∧ C.testBit i = true ∧ X.testBit i = true) → nw (wtm m) b' X) → AW D kX1_forge (FQ m A gone held b) 47 [some (.inr 25), some (.inl (nI (dif A gone))), some (.inl (nI gone)), none, some (.inl (nI (sz gone))), some (.inl (nI C)), some (.inl (nI tried)), some (.inl (nI j)), none] [] u := by
        intro k
        induction k with
        | zero =>
          intro j tried b' u hj hSMu hSb hvb hnb htr htb hX
          obtain rfl : j = 12 := by omega
          refine st_X1_forge_47 ?_; simp only [bX1_forge_47, exP, stP, p1, p2, pr, pobj, parr, sh0, sh1, sh2, sh3, sh4, sh5, sh6, sh7, sh8, sh9, sh10, sh11, sh12, sh13, sh14, sh15, sh16, sh17, sh18, sh19, sh20, sh21, sh22, sh23, sh24, sh25, sh26, sh27, sh28, sh29, sh30, sh31, sh32, sh33, sh34, sh35, sh36, sh37, sh38, sh39, sh40, sh41, sh42, sh43, sh44, sh45, sh46, sh47, sh48, sh49, sh50, sh51, sh52, sh53, sh54, sh55, sh56, sh57, sh58, sh59, brP, brN, swP, amask, apush, List.getElem?_cons_zero, List.getElem?_cons_succ, List.set_cons_zero, List.set_cons_succ, List.take_succ_cons, List.take_zero, List.drop_succ_cons, List.drop_zero, List.reverse_cons, List.reverse_nil, List.nil_append, List.cons_append, List.length_cons, List.length_nil, true_and, and_true, Nat.zero_le, Nat.reduceLeDiff, Nat.reduceAdd, Nat.reduceEqDiff, false_imp_iff, true_imp_iff, not_false_eq_true, not_true_eq_false, imp_self, forall_const, lit_le (k := 12) (n := 12) (by omega) (by omega)]
          refine st_X1_forge_106 ?_; simp only [bX1_forge_106, exP, stP, p1, p2, pr, pobj, parr, sh0, sh1, sh2, sh3, sh4, sh5, sh6, sh7, sh8, sh9, sh10, sh11, sh12, sh13, sh14, sh15, sh16, sh17, sh18, sh19, sh20, sh21, sh22, sh23, sh24, sh25, sh26, sh27, sh28, sh29, sh30, sh31, sh32, sh33, sh34, sh35, sh36, sh37, sh38, sh39, sh40, sh41, sh42, sh43, sh44, sh45, sh46, sh47, sh48, sh49, sh50, sh51, sh52, sh53, sh54, sh55, sh56, sh57, sh58, sh59, brP, brN, swP, amask, apush, List.getElem?_cons_zero, List.getElem?_cons_succ, List.set_cons_zero, List.set_cons_succ, List.take_succ_cons, List.take_zero, List.drop_succ_cons, List.drop_zero, List.reverse_cons, List.reverse_nil, List.nil_append, List.cons_append, List.length_cons, List.length_nil, true_and, and_true, Nat.zero_le, Nat.reduceLeDiff, Nat.reduceAdd, Nat.reduceEqDiff, false_imp_iff, true_imp_iff, not_false_eq_true, not_true_eq_false, imp_self, forall_const]
          refine ⟨rfl, hSMu, b', hSb, hvb, hnb, fun X hvX hgX hhX => hX X hvX hgX hhX ?_⟩
          rcases Classical.em (∃ i, i < 12 ∧ C.testBit i = true ∧ X.testBit i = true) with q | q
          · exact q
          · exfalso
            refine hCn (agr_sub (t := dif A X) (fun i hi => ?_) hvX.2)
            have h1 := hCl i hi
            rw [dif_bit] at h1 ⊢
            simp at h1 ⊢
            refine ⟨h1.1, ?_⟩
            cases r : X.testBit i with
            | false => rfl
            | true => exact absurd ⟨i, hC i hi, hi, r⟩ q
        | succ k ihk =>
          intro j tried b' u hj hSMu hSb hvb hnb htr htb hX
          have hj12 : j < 12 := by omega
          have htr2 := low12_lt htr
          have htj : tried.testBit j = true ↔ held.testBit j = true := by
            rw [htb j]
            constructor
            · rintro (q | q)
              · exact q
              · omega
            · intro q; exact Or.inl q
          refine st_X1_forge_47 ?_; simp only [bX1_forge_47, exP, stP, p1, p2, pr, pobj, parr, sh0, sh1, sh2, sh3, sh4, sh5, sh6, sh7, sh8, sh9, sh10, sh11, sh12, sh13, sh14, sh15, sh16, sh17, sh18, sh19, sh20, sh21, sh22, sh23, sh24, sh25, sh26, sh27, sh28, sh29, sh30, sh31, sh32, sh33, sh34, sh35, sh36, sh37, sh38, sh39, sh40, sh41, sh42, sh43, sh44, sh45, sh46, sh47, sh48, sh49, sh50, sh51, sh52, sh53, sh54, sh55, sh56, sh57, sh58, sh59, brP, brN, swP, amask, apush, List.getElem?_cons_zero, List.getElem?_cons_succ, List.set_cons_zero, List.set_cons_succ, List.take_succ_cons, List.take_zero, List.drop_succ_cons, List.drop_zero, List.reverse_cons, List.reverse_nil, List.nil_append, List.cons_append, List.length_cons, List.length_nil, true_and, and_true, Nat.zero_le, Nat.reduceLeDiff, Nat.reduceAdd, Nat.reduceEqDiff, false_imp_iff, true_imp_iff, not_false_eq_true, not_true_eq_false, imp_self, forall_const, lit_nle (k := 12) (n := j) hj12 (by omega)]
          refine st_X1_forge_54 ?_; simp only [bX1_forge_54, exP, stP, p1, p2, pr, pobj, parr, sh0, sh1, sh2, sh3, sh4, sh5, sh6, sh7, sh8, sh9, sh10, sh11, sh12, sh13, sh14, sh15, sh16, sh17, sh18, sh19, sh20, sh21, sh22, sh23, sh24, sh25, sh26, sh27, sh28, sh29, sh30, sh31, sh32, sh33, sh34, sh35, sh36, sh37, sh38, sh39, sh40, sh41, sh42, sh43, sh44, sh45, sh46, sh47, sh48, sh49, sh50, sh51, sh52, sh53, sh54, sh55, sh56, sh57, sh58, sh59, brP, brN, swP, amask, apush, List.getElem?_cons_zero, List.getElem?_cons_succ, List.set_cons_zero, List.set_cons_succ, List.take_succ_cons, List.take_zero, List.drop_succ_cons, List.drop_zero, List.reverse_cons, List.reverse_nil, List.nil_append, List.cons_append, List.length_cons, List.length_nil, true_and, and_true, Nat.zero_le, Nat.reduceLeDiff, Nat.reduceAdd, Nat.reduceEqDiff, false_imp_iff, true_imp_iff, not_false_eq_true, not_true_eq_false, imp_self, forall_const, shl_pow hj12]
          rw [and3_0 hClt htr2 hj12]
          refine ⟨fun c1 => ?_, fun c1 => ?_⟩
          · refine st_X1_forge_100 ?_; simp only [bX1_forge_100, exP, stP, p1, p2, pr, pobj, parr, sh0, sh1, sh2, sh3, sh4, sh5, sh6, sh7, sh8, sh9, sh10, sh11, sh12, sh13, sh14, sh15, sh16, sh17, sh18, sh19, sh20, sh21, sh22, sh23, sh24, sh25, sh26, sh27, sh28, sh29, sh30, sh31, sh32, sh33, sh34, sh35, sh36, sh37, sh38, sh39, sh40, sh41, sh42, sh43, sh44, sh45, sh46, sh47, sh48, sh49, sh50, sh51, sh52, sh53, sh54, sh55, sh56, sh57, sh58, sh59, brP, brN, swP, amask, apush, List.getElem?_cons_zero, List.getElem?_cons_succ, List.set_cons_zero, List.set_cons_succ, List.take_succ_cons, List.take_zero, List.drop_succ_cons, List.drop_zero, List.reverse_cons, List.reverse_nil, List.nil_append, List.cons_append, List.length_cons, List.length_nil, true_and, and_true, Nat.zero_le, Nat.reduceLeDiff, Nat.reduceAdd, Nat.reduceEqDiff, false_imp_iff, true_imp_iff, not_false_eq_true, not_true_eq_false, imp_self, forall_const]
            rw [nI_1]
            refine ihk (j + 1) tried b' u (by omega) hSMu hSb hvb hnb htr (fun i => ?_) (fun X hvX hgX hhX hex => ?_)
            · rw [htb i]
              constructor
              · rintro (q | ⟨q1, q2⟩)
                · exact Or.inl q
                · exact Or.inr ⟨by omega, q2⟩
              · rintro (q | ⟨q1, q2⟩)
                · exact Or.inl q
                · by_cases r : i = j
                  · subst r
                    left
                    cases s : tried.testBit i with
                    | true => exact htj.mp s
                    | false => exact absurd ⟨q2, s⟩ c1
                  · exact Or.inr ⟨by omega, q2⟩
            · obtain ⟨i, hi, hiC, hiX⟩ := hex
              refine hX X hvX hgX hhX ⟨i, ?_, hiC, hiX⟩
              by_cases r : i = j
              · subst r
                exfalso
                cases s : tried.testBit i with
                | true =>
                  have := hhX i (htj.mp s)
                  rw [hiX] at this; cases this
                | false => exact c1 ⟨hiC, s⟩
              · omega
          · have c2 : C.testBit j = true ∧ tried.testBit j = false := Classical.not_not.mp c1
            have hjl := hCl j c2.1
            rw [dif_bit] at hjl
            simp at hjl
            have hszi : sz (insB gone j) = sz gone + 1 := pcN_ins (s := gone) (t := insB gone j) (d := j) 12 hj12 hjl.2 (fun i _ => insB_bit gone j i)
            have hgi : sub (insB gone j) A := fun i hi => by
              rw [insB_bit] at hi
              simp at hi
              rcases hi with hi | rfl
              · exact hgA i hi
              · exact hjl.1
            have edif : nI (dif A gone) &&& (nI (2 ^ j) ^^^ (-1)) = nI (dif A (insB gone j)) := by
              rw [← shl_pow hj12, and_not hl hj12]
              congr 1
              apply Nat.eq_of_testBit_eq
              intro i
              rw [dif_bit, dif_bit, dif_bit, insB_bit, Nat.testBit_two_pow]
              by_cases q : j = i
              · subst q; simp
              · have q2 : ¬ i = j := fun r => q r.symm
                simp [q, q2]
            refine st_X1_forge_73 ?_; simp only [bX1_forge_73, exP, stP, p1, p2, pr, pobj, parr, sh0, sh1, sh2, sh3, sh4, sh5, sh6, sh7, sh8, sh9, sh10, sh11, sh12, sh13, sh14, sh15, sh16, sh17, sh18, sh19, sh20, sh21, sh22, sh23, sh24, sh25, sh26, sh27, sh28, sh29, sh30, sh31, sh32, sh33, sh34, sh35, sh36, sh37, sh38, sh39, sh40, sh41, sh42, sh43, sh44, sh45, sh46, sh47, sh48, sh49, sh50, sh51, sh52, sh53, sh54, sh55, sh56, sh57, sh58, sh59, brP, brN, swP, amask, apush, List.getElem?_cons_zero, List.getElem?_cons_succ, List.set_cons_zero, List.set_cons_succ, List.take_succ_cons, List.take_zero, List.drop_succ_cons, List.drop_zero, List.reverse_cons, List.reverse_nil, List.nil_append, List.cons_append, List.length_cons, List.length_nil, true_and, and_true, Nat.zero_le, Nat.reduceLeDiff, Nat.reduceAdd, Nat.reduceEqDiff, false_imp_iff, true_imp_iff, not_false_eq_true, not_true_eq_false, imp_self, forall_const]
            rw [edif, or_bit hg hj12, nI_1, ← hszi]
            have hSMu2 := hSMu
            refine ⟨_, ⟨D', hDD, rec u (insB gone j) tried b' (hSMu.tw hm) (hSMu.wok hw) (by rw [hSMu.eW]; exact hpos) hszi hgi htr (hSb.cast hSMu) (by rw [hSMu.vld]; exact hvb)⟩, ?_⟩
            rintro z v ⟨rfl, hSMv, b2, hSb2, hvb2, hnb2, hall⟩
            rw [hSMu.eW] at hnb2
            rw [hSMu.vld] at hvb2
            simp only [exP, stP, p1, p2, pr, pobj, parr, sh0, sh1, sh2, sh3, sh4, sh5, sh6, sh7, sh8, sh9, sh10, sh11, sh12, sh13, sh14, sh15, sh16, sh17, sh18, sh19, sh20, sh21, sh22, sh23, sh24, sh25, sh26, sh27, sh28, sh29, sh30, sh31, sh32, sh33, sh34, sh35, sh36, sh37, sh38, sh39, sh40, sh41, sh42, sh43, sh44, sh45, sh46, sh47, sh48, sh49, sh50, sh51, sh52, sh53, sh54, sh55, sh56, sh57, sh58, sh59, brP, brN, swP, amask, apush, List.getElem?_cons_zero, List.getElem?_cons_succ, List.set_cons_zero, List.set_cons_succ, List.take_succ_cons, List.take_zero, List.drop_succ_cons, List.drop_zero, List.reverse_cons, List.reverse_nil, List.nil_append, List.cons_append, List.length_cons, List.length_nil, true_and, and_true, Nat.zero_le, Nat.reduceLeDiff, Nat.reduceAdd, Nat.reduceEqDiff, false_imp_iff, true_imp_iff, not_false_eq_true, not_true_eq_false, imp_self, forall_const]
            refine st_X1_forge_100 ?_; simp only [bX1_forge_100, exP, stP, p1, p2, pr, pobj, parr, sh0, sh1, sh2, sh3, sh4, sh5, sh6, sh7, sh8, sh9, sh10, sh11, sh12, sh13, sh14, sh15, sh16, sh17, sh18, sh19, sh20, sh21, sh22, sh23, sh24, sh25, sh26, sh27, sh28, sh29, sh30, sh31, sh32, sh33, sh34, sh35, sh36, sh37, sh38, sh39, sh40, sh41, sh42, sh43, sh44, sh45, sh46, sh47, sh48, sh49, sh50, sh51, sh52, sh53, sh54, sh55, sh56, sh57, sh58, sh59, brP, brN, swP, amask, apush, List.getElem?_cons_zero, List.getElem?_cons_succ, List.set_cons_zero, List.set_cons_succ, List.take_succ_cons, List.take_zero, List.drop_succ_cons, List.drop_zero, List.reverse_cons, List.reverse_nil, List.nil_append, List.cons_append, List.length_cons, List.length_nil, true_and, and_true, Nat.zero_le, Nat.reduceLeDiff, Nat.reduceAdd, Nat.reduceEqDiff, false_imp_iff, true_imp_iff, not_false_eq_true, not_true_eq_false, imp_self, forall_const]
            rw [nI_1]
            have hSMv2 := hSMu.tr hSMv
            rw [or_bit htr2 hj12]
            have key := ihk (j + 1) (insB tried j) b2 v (by omega) hSMv2 (hSb2.back hSMu) hvb2 (nw_trans hnb2 hnb) (insB_low htr hj12) (fun i => by
              rw [insB_bit, Bool.or_eq_true, htb i, decide_eq_true_eq]
              constructor
              · rintro ((q | ⟨q1, q2⟩) | rfl)
                · exact Or.inl q
                · exact Or.inr ⟨by omega, q2⟩
                · exact Or.inr ⟨by omega, c2.1⟩
              · rintro (q | ⟨q1, q2⟩)
                · exact Or.inl (Or.inl q)
                · by_cases r : i = j
                  · exact Or.inr r
                  · exact Or.inl (Or.inr ⟨by omega, q2⟩)) (fun X hvX hgX hhX hex => by
              by_cases q : ∃ i, i < j ∧ C.testBit i = true ∧ X.testBit i = true
              · exact nw_trans hnb2 (hX X hvX hgX hhX q)
              · obtain ⟨i, hi, hiC, hiX⟩ := hex
                have hij : i = j := by
                  by_cases r : i = j
                  · exact r
                  · exact absurd ⟨i, by omega, hiC, hiX⟩ q
                subst hij
                have := hall X (by rw [hSMu.vld]; exact hvX) (fun x hx => by
                  rw [insB_bit] at hx
                  simp at hx
                  rcases hx with hx | rfl
                  · exact hgX x hx
                  · exact hiX) (fun x hx => by
                  rcases (htb x).mp hx with r | ⟨r1, r2⟩
                  · exact hhX x r
                  · cases s : X.testBit x with
                    | false => rfl
                    | true => exact absurd ⟨x, r1, r2, s⟩ q)
                rw [hSMu.eW] at this
                exact this)
            exact key
      refine st_X1_forge_41 ?_; simp only [bX1_forge_41, exP, stP, p1, p2, pr, pobj, parr, sh0, sh1, sh2, sh3, sh4, sh5, sh6, sh7, sh8, sh9, sh10, sh11, sh12, sh13, sh14, sh15, sh16, sh17, sh18, sh19, sh20, sh21, sh22, sh23, sh24, sh25, sh26, sh27, sh28, sh29, sh30, sh31, sh32, sh33, sh34, sh35, sh36, sh37, sh38, sh39, sh40, sh41, sh42, sh43, sh44, sh45, sh46, sh47, sh48, sh49, sh50, sh51, sh52, sh53, sh54, sh55, sh56, sh57, sh58, sh59, brP, brN, swP, amask, apush, List.getElem?_cons_zero, List.getElem?_cons_succ, List.set_cons_zero, List.set_cons_succ, List.take_succ_cons, List.take_zero, List.drop_succ_cons, List.drop_zero, List.reverse_cons, List.reverse_nil, List.nil_append, List.cons_append, List.length_cons, List.length_nil, true_and, and_true, Nat.zero_le, Nat.reduceLeDiff, Nat.reduceAdd, Nat.reduceEqDiff, false_imp_iff, true_imp_iff, not_false_eq_true, not_true_eq_false, imp_self, forall_const]
      exact loop 12 0 held b u rfl hSM hSu hv (nw_refl _ _) hheld (fun i => by simp) (fun X _ _ _ hex => by obtain ⟨i, hi, -⟩ := hex; omega)
  · -- too heavy
    refine st_X1_forge_19 ?_; simp only [bX1_forge_19, exP, stP, p1, p2, pr, pobj, parr, sh0, sh1, sh2, sh3, sh4, sh5, sh6, sh7, sh8, sh9, sh10, sh11, sh12, sh13, sh14, sh15, sh16, sh17, sh18, sh19, sh20, sh21, sh22, sh23, sh24, sh25, sh26, sh27, sh28, sh29, sh30, sh31, sh32, sh33, sh34, sh35, sh36, sh37, sh38, sh39, sh40, sh41, sh42, sh43, sh44, sh45, sh46, sh47, sh48, sh49, sh50, sh51, sh52, sh53, sh54, sh55, sh56, sh57, sh58, sh59, brP, brN, swP, amask, apush, List.getElem?_cons_zero, List.getElem?_cons_succ, List.set_cons_zero, List.set_cons_succ, List.take_succ_cons, List.take_zero, List.drop_succ_cons, List.drop_zero, List.reverse_cons, List.reverse_nil, List.nil_append, List.cons_append, List.length_cons, List.length_nil, true_and, and_true, Nat.zero_le, Nat.reduceLeDiff, Nat.reduceAdd, Nat.reduceEqDiff, false_imp_iff, true_imp_iff, not_false_eq_true, not_true_eq_false, imp_self, forall_const]
    refine ⟨rfl, SM.rf m, b, hS, hv, nw_refl _ _, fun X hX hgX _ => ?_⟩
    rw [Int32.le_iff_toInt_le] at c
    obtain ⟨h1, -⟩ := wsN_mono (wt := wtm m) (s := gone) (t := X) 12 (fun i _ hi => hpos i (hX.1 i hi)) (fun i _ hi => hgX i hi)
    have h2 := hS.2.2
    unfold nw ws at *
    omega
theorem c_forge (A : Nat) (hA : low12 A) : ∀ (n : Nat) (m : AM) (gone held b : Nat), TW m → WOK m → (∀ i, A.testBit i = true → 1 ≤ wtm m i) → sz gone + n = 12 → sub gone A → low12 held → SB m m b → vld m A b → AC (n + 5) kX1_forge [.inr 25, .inl (nI (dif A gone)), .inl (nI gone), .inl (nI held), .inl (nI (sz gone))] m (FQ m A gone held b) := by
  intro n
  induction n with
  | zero =>
    intro m gone held b hm hw hp hs hg hh hS hv
    refine forge_core A hA 5 4 (by omega) (by omega) m gone held b hm hw hp hg hh hS hv (fun u gone' _ _ _ _ _ h => ?_)
    have := pcN_le gone' 12
    unfold sz at h hs
    omega
  | succ n ih =>
    intro m gone held b hm hw hp hs hg hh hS hv
    exact forge_core A hA (n + 1 + 5) (n + 5) (by omega) (by omega) m gone held b hm hw hp hg hh hS hv (fun u gone' held' b' h1 h2 h3 h4 h5 h6 h7 h8 => ih u gone' held' b' h1 h2 h3 (by omega) h5 h6 h7 h8)
def LiQ (m : AM) (A : Nat) : APost := fun z u => SM m u ∧ ∃ x, z = some (nI x) ∧ low12 x ∧ isF (nF m) (nL m) (nC m) (wtm m) A x
theorem c_lightest (m : AM) (A : Nat) (hA : low12 A) (hm : TW m) (hw : WOK m) (hpos : ∀ i, A.testBit i = true → 1 ≤ wtm m i) : AC 18 kX1_lightest [.inr 25, .inl (nI A)] m (LiQ m A) := by
  have hA2 := low12_lt hA
  refine AC_of own_X1_lightest (ls := [some (.inr 25), some (.inl (nI A))]) (z := 0) (Nat.le_of_ble_eq_true rfl) rfl ?_
  refine st_X1_lightest_0 ?_; simp only [bX1_lightest_0, exP, stP, p1, p2, pr, pobj, parr, sh0, sh1, sh2, sh3, sh4, sh5, sh6, sh7, sh8, sh9, sh10, sh11, sh12, sh13, sh14, sh15, sh16, sh17, sh18, sh19, sh20, sh21, sh22, sh23, sh24, sh25, sh26, sh27, sh28, sh29, sh30, sh31, sh32, sh33, sh34, sh35, sh36, sh37, sh38, sh39, sh40, sh41, sh42, sh43, sh44, sh45, sh46, sh47, sh48, sh49, sh50, sh51, sh52, sh53, sh54, sh55, sh56, sh57, sh58, sh59, brP, brN, swP, amask, apush, List.getElem?_cons_zero, List.getElem?_cons_succ, List.set_cons_zero, List.set_cons_succ, List.take_succ_cons, List.take_zero, List.drop_succ_cons, List.drop_zero, List.reverse_cons, List.reverse_nil, List.nil_append, List.cons_append, List.length_cons, List.length_nil, true_and, and_true, Nat.zero_le, Nat.reduceLeDiff, Nat.reduceAdd, Nat.reduceEqDiff, false_imp_iff, true_imp_iff, not_false_eq_true, not_true_eq_false, imp_self, forall_const, true_or]
  have e26 : wtm (aup m 25 (upd (m 25) 2 (nI A))) = wtm m := by funext i; unfold wtm; rw [aup_ne (by omega)]
  refine ⟨_, ⟨1, by decide, c_weigh _ (by unfold WOK; rw [e26]; exact hw) A hA2⟩, ?_⟩
  rintro z u ⟨rfl, w, rfl, hwx⟩
  rw [e26] at hwx
  simp only [exP, stP, p1, p2, pr, pobj, parr, sh0, sh1, sh2, sh3, sh4, sh5, sh6, sh7, sh8, sh9, sh10, sh11, sh12, sh13, sh14, sh15, sh16, sh17, sh18, sh19, sh20, sh21, sh22, sh23, sh24, sh25, sh26, sh27, sh28, sh29, sh30, sh31, sh32, sh33, sh34, sh35, sh36, sh37, sh38, sh39, sh40, sh41, sh42, sh43, sh44, sh45, sh46, sh47, sh48, sh49, sh50, sh51, sh52, sh53, sh54, sh55, sh56, sh57, sh58, sh59, brP, brN, swP, amask, apush, List.getElem?_cons_zero, List.getElem?_cons_succ, List.set_cons_zero, List.set_cons_succ, List.take_succ_cons, List.take_zero, List.drop_succ_cons, List.drop_zero, List.reverse_cons, List.reverse_nil, List.nil_append, List.cons_append, List.length_cons, List.length_nil, true_and, and_true, Nat.zero_le, Nat.reduceLeDiff, Nat.reduceAdd, Nat.reduceEqDiff, false_imp_iff, true_imp_iff, not_false_eq_true, not_true_eq_false, imp_self, forall_const, true_or]
  have hSM : SM m (aup (aup m 25 (upd (m 25) 2 (nI A))) 25 (upd (aup m 25 (upd (m 25) 2 (nI A)) 25) 3 w)) := ⟨fun j _ _ _ _ j5 => by rw [aup_ne j5, aup_ne j5], fun j _ => by rw [aup_ne (by omega), aup_ne (by omega)]⟩
  have hSB : SB m (aup (aup m 25 (upd (m 25) 2 (nI A))) 25 (upd (aup m 25 (upd (m 25) 2 (nI A)) 25) 3 w)) A := ⟨hA, by rw [aup_eq, upd_ne (by omega), aup_eq, upd_eq], by rw [aup_eq, upd_eq]; exact hwx⟩
  generalize aup (aup m 25 (upd (m 25) 2 (nI A))) 25 (upd (aup m 25 (upd (m 25) 2 (nI A)) 25) 3 w) = v at hSM hSB ⊢
  have hvA : vld v A A := by
    rw [hSM.vld]
    refine ⟨fun i hi => hi, agr_congr (t := 0) (fun i _ => ?_) agr_zero⟩
    rw [dif_bit]; simp
  have ed : dif A 0 = A := by
    apply Nat.eq_of_testBit_eq
    intro i
    rw [dif_bit]; simp
  have hf := c_forge A hA 12 v 0 0 A (hSM.tw hm) (hSM.wok hw) (by rw [hSM.eW]; exact hpos) rfl (fun i hi => by simp at hi) (fun i hi => by simp at hi) (hSB.cast hSM) hvA
  rw [ed] at hf
  refine ⟨_, ⟨17, by decide, hf⟩, ?_⟩
  rintro z x ⟨rfl, hSMx, b', hSb, hvb, -, hall⟩
  simp only [exP, stP, p1, p2, pr, pobj, parr, sh0, sh1, sh2, sh3, sh4, sh5, sh6, sh7, sh8, sh9, sh10, sh11, sh12, sh13, sh14, sh15, sh16, sh17, sh18, sh19, sh20, sh21, sh22, sh23, sh24, sh25, sh26, sh27, sh28, sh29, sh30, sh31, sh32, sh33, sh34, sh35, sh36, sh37, sh38, sh39, sh40, sh41, sh42, sh43, sh44, sh45, sh46, sh47, sh48, sh49, sh50, sh51, sh52, sh53, sh54, sh55, sh56, sh57, sh58, sh59, brP, brN, swP, amask, apush, List.getElem?_cons_zero, List.getElem?_cons_succ, List.set_cons_zero, List.set_cons_succ, List.take_succ_cons, List.take_zero, List.drop_succ_cons, List.drop_zero, List.reverse_cons, List.reverse_nil, List.nil_append, List.cons_append, List.length_cons, List.length_nil, true_and, and_true, Nat.zero_le, Nat.reduceLeDiff, Nat.reduceAdd, Nat.reduceEqDiff, false_imp_iff, true_imp_iff, not_false_eq_true, not_true_eq_false, imp_self, forall_const]
  rw [hSM.vld] at hvb
  rw [hSb.2.1]
  refine ⟨hSM.tr hSMx, b', rfl, hSb.1, hvb.1, hvb.2, fun t h1 h2 => ?_⟩
  have := hall t (by rw [hSM.vld]; exact ⟨h1, h2⟩) (fun i hi => by simp at hi) (fun i hi => by simp at hi)
  rw [hSM.eW] at this
  exact this
end
section
/-! ===== leaves of the reference ===== -/
def f_lies (v a b : Int32) : Bool := !decide (v < a) && !decide (b < v)
theorem c_lies (m : AM) (v a b : Int32) : AC 0 kX6_lies [.inl v, .inl a, .inl b] m (fun z u => m = u ∧ z = some (b01 (f_lies v a b))) := by
  refine AC_of own_X6_lies (ls := [some (.inl v), some (.inl a), some (.inl b)]) (z := 0) (Nat.le_of_ble_eq_true rfl) rfl ?_
  have no : f_lies v a b = false → AW 0 kX6_lies (fun z u => m = u ∧ z = some (b01 (f_lies v a b))) 14 [none, none, none] [] m := by
    intro h
    refine st_X6_lies_14 ?_; simp only [bX6_lies_14, exP, stP, p1, p2, pr, pobj, parr, sh0, sh1, sh2, sh3, sh4, sh5, sh6, sh7, sh8, sh9, sh10, sh11, sh12, sh13, sh14, sh15, sh16, sh17, sh18, sh19, sh20, sh21, sh22, sh23, sh24, sh25, sh26, sh27, sh28, sh29, sh30, sh31, sh32, sh33, sh34, sh35, sh36, sh37, sh38, sh39, sh40, sh41, sh42, sh43, sh44, sh45, sh46, sh47, sh48, sh49, sh50, sh51, sh52, sh53, sh54, sh55, sh56, sh57, sh58, sh59, brP, brN, swP, amask, apush, List.getElem?_cons_zero, List.getElem?_cons_succ, List.set_cons_zero, List.set_cons_succ, List.take_succ_cons, List.take_zero, List.drop_succ_cons, List.drop_zero, List.reverse_cons, List.reverse_nil, List.nil_append, List.cons_append, List.length_cons, List.length_nil, true_and, and_true, Nat.zero_le, Nat.reduceLeDiff, Nat.reduceAdd, Nat.reduceEqDiff, false_imp_iff, true_imp_iff, not_false_eq_true, not_true_eq_false, imp_self, forall_const]
    refine st_X6_lies_15 ?_; simp only [bX6_lies_15, exP, stP, p1, p2, pr, pobj, parr, sh0, sh1, sh2, sh3, sh4, sh5, sh6, sh7, sh8, sh9, sh10, sh11, sh12, sh13, sh14, sh15, sh16, sh17, sh18, sh19, sh20, sh21, sh22, sh23, sh24, sh25, sh26, sh27, sh28, sh29, sh30, sh31, sh32, sh33, sh34, sh35, sh36, sh37, sh38, sh39, sh40, sh41, sh42, sh43, sh44, sh45, sh46, sh47, sh48, sh49, sh50, sh51, sh52, sh53, sh54, sh55, sh56, sh57, sh58, sh59, brP, brN, swP, amask, apush, List.getElem?_cons_zero, List.getElem?_cons_succ, List.set_cons_zero, List.set_cons_succ, List.take_succ_cons, List.take_zero, List.drop_succ_cons, List.drop_zero, List.reverse_cons, List.reverse_nil, List.nil_append, List.cons_append, List.length_cons, List.length_nil, true_and, and_true, Nat.zero_le, Nat.reduceLeDiff, Nat.reduceAdd, Nat.reduceEqDiff, false_imp_iff, true_imp_iff, not_false_eq_true, not_true_eq_false, imp_self, forall_const]
    simp [h, b01]
  refine st_X6_lies_0 ?_; simp only [bX6_lies_0, exP, stP, p1, p2, pr, pobj, parr, sh0, sh1, sh2, sh3, sh4, sh5, sh6, sh7, sh8, sh9, sh10, sh11, sh12, sh13, sh14, sh15, sh16, sh17, sh18, sh19, sh20, sh21, sh22, sh23, sh24, sh25, sh26, sh27, sh28, sh29, sh30, sh31, sh32, sh33, sh34, sh35, sh36, sh37, sh38, sh39, sh40, sh41, sh42, sh43, sh44, sh45, sh46, sh47, sh48, sh49, sh50, sh51, sh52, sh53, sh54, sh55, sh56, sh57, sh58, sh59, brP, brN, swP, amask, apush, List.getElem?_cons_zero, List.getElem?_cons_succ, List.set_cons_zero, List.set_cons_succ, List.take_succ_cons, List.take_zero, List.drop_succ_cons, List.drop_zero, List.reverse_cons, List.reverse_nil, List.nil_append, List.cons_append, List.length_cons, List.length_nil, true_and, and_true, Nat.zero_le, Nat.reduceLeDiff, Nat.reduceAdd, Nat.reduceEqDiff, false_imp_iff, true_imp_iff, not_false_eq_true, not_true_eq_false, imp_self, forall_const]
  refine ⟨fun c => no (by unfold f_lies; simp [c]), fun c => ?_⟩
  refine st_X6_lies_5 ?_; simp only [bX6_lies_5, exP, stP, p1, p2, pr, pobj, parr, sh0, sh1, sh2, sh3, sh4, sh5, sh6, sh7, sh8, sh9, sh10, sh11, sh12, sh13, sh14, sh15, sh16, sh17, sh18, sh19, sh20, sh21, sh22, sh23, sh24, sh25, sh26, sh27, sh28, sh29, sh30, sh31, sh32, sh33, sh34, sh35, sh36, sh37, sh38, sh39, sh40, sh41, sh42, sh43, sh44, sh45, sh46, sh47, sh48, sh49, sh50, sh51, sh52, sh53, sh54, sh55, sh56, sh57, sh58, sh59, brP, brN, swP, amask, apush, List.getElem?_cons_zero, List.getElem?_cons_succ, List.set_cons_zero, List.set_cons_succ, List.take_succ_cons, List.take_zero, List.drop_succ_cons, List.drop_zero, List.reverse_cons, List.reverse_nil, List.nil_append, List.cons_append, List.length_cons, List.length_nil, true_and, and_true, Nat.zero_le, Nat.reduceLeDiff, Nat.reduceAdd, Nat.reduceEqDiff, false_imp_iff, true_imp_iff, not_false_eq_true, not_true_eq_false, imp_self, forall_const]
  refine ⟨fun c1 => no (by unfold f_lies; simp [c1]), fun c1 => ?_⟩
  refine st_X6_lies_10 ?_; simp only [bX6_lies_10, exP, stP, p1, p2, pr, pobj, parr, sh0, sh1, sh2, sh3, sh4, sh5, sh6, sh7, sh8, sh9, sh10, sh11, sh12, sh13, sh14, sh15, sh16, sh17, sh18, sh19, sh20, sh21, sh22, sh23, sh24, sh25, sh26, sh27, sh28, sh29, sh30, sh31, sh32, sh33, sh34, sh35, sh36, sh37, sh38, sh39, sh40, sh41, sh42, sh43, sh44, sh45, sh46, sh47, sh48, sh49, sh50, sh51, sh52, sh53, sh54, sh55, sh56, sh57, sh58, sh59, brP, brN, swP, amask, apush, List.getElem?_cons_zero, List.getElem?_cons_succ, List.set_cons_zero, List.set_cons_succ, List.take_succ_cons, List.take_zero, List.drop_succ_cons, List.drop_zero, List.reverse_cons, List.reverse_nil, List.nil_append, List.cons_append, List.length_cons, List.length_nil, true_and, and_true, Nat.zero_le, Nat.reduceLeDiff, Nat.reduceAdd, Nat.reduceEqDiff, false_imp_iff, true_imp_iff, not_false_eq_true, not_true_eq_false, imp_self, forall_const]
  refine st_X6_lies_15 ?_; simp only [bX6_lies_15, exP, stP, p1, p2, pr, pobj, parr, sh0, sh1, sh2, sh3, sh4, sh5, sh6, sh7, sh8, sh9, sh10, sh11, sh12, sh13, sh14, sh15, sh16, sh17, sh18, sh19, sh20, sh21, sh22, sh23, sh24, sh25, sh26, sh27, sh28, sh29, sh30, sh31, sh32, sh33, sh34, sh35, sh36, sh37, sh38, sh39, sh40, sh41, sh42, sh43, sh44, sh45, sh46, sh47, sh48, sh49, sh50, sh51, sh52, sh53, sh54, sh55, sh56, sh57, sh58, sh59, brP, brN, swP, amask, apush, List.getElem?_cons_zero, List.getElem?_cons_succ, List.set_cons_zero, List.set_cons_succ, List.take_succ_cons, List.take_zero, List.drop_succ_cons, List.drop_zero, List.reverse_cons, List.reverse_nil, List.nil_append, List.cons_append, List.length_cons, List.length_nil, true_and, and_true, Nat.zero_le, Nat.reduceLeDiff, Nat.reduceAdd, Nat.reduceEqDiff, false_imp_iff, true_imp_iff, not_false_eq_true, not_true_eq_false, imp_self, forall_const]
  have h : f_lies v a b = true := by unfold f_lies; simp [c, c1]
  simp [h, b01]
def f_isSpan (a b : Int32) : Bool := f_lies a 0 3000 && f_lies b a 3000
theorem c_isSpan (m : AM) (a b : Int32) : AC 1 kX6_isSpan [.inl a, .inl b] m (fun z u => m = u ∧ z = some (b01 (f_isSpan a b))) := by
  refine AC_of own_X6_isSpan (ls := [some (.inl a), some (.inl b)]) (z := 0) (Nat.le_of_ble_eq_true rfl) rfl ?_
  have no : f_isSpan a b = false → AW 1 kX6_isSpan (fun z u => m = u ∧ z = some (b01 (f_isSpan a b))) 26 [none, none] [] m := by
    intro h
    refine st_X6_isSpan_26 ?_; simp only [bX6_isSpan_26, exP, stP, p1, p2, pr, pobj, parr, sh0, sh1, sh2, sh3, sh4, sh5, sh6, sh7, sh8, sh9, sh10, sh11, sh12, sh13, sh14, sh15, sh16, sh17, sh18, sh19, sh20, sh21, sh22, sh23, sh24, sh25, sh26, sh27, sh28, sh29, sh30, sh31, sh32, sh33, sh34, sh35, sh36, sh37, sh38, sh39, sh40, sh41, sh42, sh43, sh44, sh45, sh46, sh47, sh48, sh49, sh50, sh51, sh52, sh53, sh54, sh55, sh56, sh57, sh58, sh59, brP, brN, swP, amask, apush, List.getElem?_cons_zero, List.getElem?_cons_succ, List.set_cons_zero, List.set_cons_succ, List.take_succ_cons, List.take_zero, List.drop_succ_cons, List.drop_zero, List.reverse_cons, List.reverse_nil, List.nil_append, List.cons_append, List.length_cons, List.length_nil, true_and, and_true, Nat.zero_le, Nat.reduceLeDiff, Nat.reduceAdd, Nat.reduceEqDiff, false_imp_iff, true_imp_iff, not_false_eq_true, not_true_eq_false, imp_self, forall_const]
    refine st_X6_isSpan_27 ?_; simp only [bX6_isSpan_27, exP, stP, p1, p2, pr, pobj, parr, sh0, sh1, sh2, sh3, sh4, sh5, sh6, sh7, sh8, sh9, sh10, sh11, sh12, sh13, sh14, sh15, sh16, sh17, sh18, sh19, sh20, sh21, sh22, sh23, sh24, sh25, sh26, sh27, sh28, sh29, sh30, sh31, sh32, sh33, sh34, sh35, sh36, sh37, sh38, sh39, sh40, sh41, sh42, sh43, sh44, sh45, sh46, sh47, sh48, sh49, sh50, sh51, sh52, sh53, sh54, sh55, sh56, sh57, sh58, sh59, brP, brN, swP, amask, apush, List.getElem?_cons_zero, List.getElem?_cons_succ, List.set_cons_zero, List.set_cons_succ, List.take_succ_cons, List.take_zero, List.drop_succ_cons, List.drop_zero, List.reverse_cons, List.reverse_nil, List.nil_append, List.cons_append, List.length_cons, List.length_nil, true_and, and_true, Nat.zero_le, Nat.reduceLeDiff, Nat.reduceAdd, Nat.reduceEqDiff, false_imp_iff, true_imp_iff, not_false_eq_true, not_true_eq_false, imp_self, forall_const]
    simp [h, b01]
  refine st_X6_isSpan_0 ?_; simp only [bX6_isSpan_0, exP, stP, p1, p2, pr, pobj, parr, sh0, sh1, sh2, sh3, sh4, sh5, sh6, sh7, sh8, sh9, sh10, sh11, sh12, sh13, sh14, sh15, sh16, sh17, sh18, sh19, sh20, sh21, sh22, sh23, sh24, sh25, sh26, sh27, sh28, sh29, sh30, sh31, sh32, sh33, sh34, sh35, sh36, sh37, sh38, sh39, sh40, sh41, sh42, sh43, sh44, sh45, sh46, sh47, sh48, sh49, sh50, sh51, sh52, sh53, sh54, sh55, sh56, sh57, sh58, sh59, brP, brN, swP, amask, apush, List.getElem?_cons_zero, List.getElem?_cons_succ, List.set_cons_zero, List.set_cons_succ, List.take_succ_cons, List.take_zero, List.drop_succ_cons, List.drop_zero, List.reverse_cons, List.reverse_nil, List.nil_append, List.cons_append, List.length_cons, List.length_nil, true_and, and_true, Nat.zero_le, Nat.reduceLeDiff, Nat.reduceAdd, Nat.reduceEqDiff, false_imp_iff, true_imp_iff, not_false_eq_true, not_true_eq_false, imp_self, forall_const]
  refine ⟨_, ⟨0, by decide, c_lies _ _ _ _⟩, ?_⟩; rintro _ _ ⟨rfl, rfl⟩; simp only [exP, stP, p1, p2, pr, pobj, parr, sh0, sh1, sh2, sh3, sh4, sh5, sh6, sh7, sh8, sh9, sh10, sh11, sh12, sh13, sh14, sh15, sh16, sh17, sh18, sh19, sh20, sh21, sh22, sh23, sh24, sh25, sh26, sh27, sh28, sh29, sh30, sh31, sh32, sh33, sh34, sh35, sh36, sh37, sh38, sh39, sh40, sh41, sh42, sh43, sh44, sh45, sh46, sh47, sh48, sh49, sh50, sh51, sh52, sh53, sh54, sh55, sh56, sh57, sh58, sh59, brP, brN, swP, amask, apush, List.getElem?_cons_zero, List.getElem?_cons_succ, List.set_cons_zero, List.set_cons_succ, List.take_succ_cons, List.take_zero, List.drop_succ_cons, List.drop_zero, List.reverse_cons, List.reverse_nil, List.nil_append, List.cons_append, List.length_cons, List.length_nil, true_and, and_true, Nat.zero_le, Nat.reduceLeDiff, Nat.reduceAdd, Nat.reduceEqDiff, false_imp_iff, true_imp_iff, not_false_eq_true, not_true_eq_false, imp_self, forall_const, b01_0]
  refine ⟨fun c => no (by unfold f_isSpan; simp [c]), fun c => ?_⟩
  refine st_X6_isSpan_11 ?_; simp only [bX6_isSpan_11, exP, stP, p1, p2, pr, pobj, parr, sh0, sh1, sh2, sh3, sh4, sh5, sh6, sh7, sh8, sh9, sh10, sh11, sh12, sh13, sh14, sh15, sh16, sh17, sh18, sh19, sh20, sh21, sh22, sh23, sh24, sh25, sh26, sh27, sh28, sh29, sh30, sh31, sh32, sh33, sh34, sh35, sh36, sh37, sh38, sh39, sh40, sh41, sh42, sh43, sh44, sh45, sh46, sh47, sh48, sh49, sh50, sh51, sh52, sh53, sh54, sh55, sh56, sh57, sh58, sh59, brP, brN, swP, amask, apush, List.getElem?_cons_zero, List.getElem?_cons_succ, List.set_cons_zero, List.set_cons_succ, List.take_succ_cons, List.take_zero, List.drop_succ_cons, List.drop_zero, List.reverse_cons, List.reverse_nil, List.nil_append, List.cons_append, List.length_cons, List.length_nil, true_and, and_true, Nat.zero_le, Nat.reduceLeDiff, Nat.reduceAdd, Nat.reduceEqDiff, false_imp_iff, true_imp_iff, not_false_eq_true, not_true_eq_false, imp_self, forall_const]
  refine ⟨_, ⟨0, by decide, c_lies _ _ _ _⟩, ?_⟩; rintro _ _ ⟨rfl, rfl⟩; simp only [exP, stP, p1, p2, pr, pobj, parr, sh0, sh1, sh2, sh3, sh4, sh5, sh6, sh7, sh8, sh9, sh10, sh11, sh12, sh13, sh14, sh15, sh16, sh17, sh18, sh19, sh20, sh21, sh22, sh23, sh24, sh25, sh26, sh27, sh28, sh29, sh30, sh31, sh32, sh33, sh34, sh35, sh36, sh37, sh38, sh39, sh40, sh41, sh42, sh43, sh44, sh45, sh46, sh47, sh48, sh49, sh50, sh51, sh52, sh53, sh54, sh55, sh56, sh57, sh58, sh59, brP, brN, swP, amask, apush, List.getElem?_cons_zero, List.getElem?_cons_succ, List.set_cons_zero, List.set_cons_succ, List.take_succ_cons, List.take_zero, List.drop_succ_cons, List.drop_zero, List.reverse_cons, List.reverse_nil, List.nil_append, List.cons_append, List.length_cons, List.length_nil, true_and, and_true, Nat.zero_le, Nat.reduceLeDiff, Nat.reduceAdd, Nat.reduceEqDiff, false_imp_iff, true_imp_iff, not_false_eq_true, not_true_eq_false, imp_self, forall_const, b01_0]
  refine ⟨fun c1 => no (by unfold f_isSpan; simp [c1]), fun c1 => ?_⟩
  refine st_X6_isSpan_22 ?_; simp only [bX6_isSpan_22, exP, stP, p1, p2, pr, pobj, parr, sh0, sh1, sh2, sh3, sh4, sh5, sh6, sh7, sh8, sh9, sh10, sh11, sh12, sh13, sh14, sh15, sh16, sh17, sh18, sh19, sh20, sh21, sh22, sh23, sh24, sh25, sh26, sh27, sh28, sh29, sh30, sh31, sh32, sh33, sh34, sh35, sh36, sh37, sh38, sh39, sh40, sh41, sh42, sh43, sh44, sh45, sh46, sh47, sh48, sh49, sh50, sh51, sh52, sh53, sh54, sh55, sh56, sh57, sh58, sh59, brP, brN, swP, amask, apush, List.getElem?_cons_zero, List.getElem?_cons_succ, List.set_cons_zero, List.set_cons_succ, List.take_succ_cons, List.take_zero, List.drop_succ_cons, List.drop_zero, List.reverse_cons, List.reverse_nil, List.nil_append, List.cons_append, List.length_cons, List.length_nil, true_and, and_true, Nat.zero_le, Nat.reduceLeDiff, Nat.reduceAdd, Nat.reduceEqDiff, false_imp_iff, true_imp_iff, not_false_eq_true, not_true_eq_false, imp_self, forall_const]
  refine st_X6_isSpan_27 ?_; simp only [bX6_isSpan_27, exP, stP, p1, p2, pr, pobj, parr, sh0, sh1, sh2, sh3, sh4, sh5, sh6, sh7, sh8, sh9, sh10, sh11, sh12, sh13, sh14, sh15, sh16, sh17, sh18, sh19, sh20, sh21, sh22, sh23, sh24, sh25, sh26, sh27, sh28, sh29, sh30, sh31, sh32, sh33, sh34, sh35, sh36, sh37, sh38, sh39, sh40, sh41, sh42, sh43, sh44, sh45, sh46, sh47, sh48, sh49, sh50, sh51, sh52, sh53, sh54, sh55, sh56, sh57, sh58, sh59, brP, brN, swP, amask, apush, List.getElem?_cons_zero, List.getElem?_cons_succ, List.set_cons_zero, List.set_cons_succ, List.take_succ_cons, List.take_zero, List.drop_succ_cons, List.drop_zero, List.reverse_cons, List.reverse_nil, List.nil_append, List.cons_append, List.length_cons, List.length_nil, true_and, and_true, Nat.zero_le, Nat.reduceLeDiff, Nat.reduceAdd, Nat.reduceEqDiff, false_imp_iff, true_imp_iff, not_false_eq_true, not_true_eq_false, imp_self, forall_const]
  have h : f_isSpan a b = true := by unfold f_isSpan; simp at c c1; simp [c, c1]
  simp [h, b01]
theorem c_mhas (m : AM) (s : Int32) (i : Nat) (hi : i < 32) : AC 0 kX6_has [.inl s, .inl (nI i)] m (fun z u => m = u ∧ z = some (b01 (bt s i))) := by
  refine AC_of own_X6_has (ls := [some (.inl s), some (.inl (nI i))]) (z := 0) (Nat.le_of_ble_eq_true rfl) rfl ?_
  have hh := holds_bt s hi
  unfold f_holds at hh
  have key : ((s >>> (nI i &&& 31)) &&& 1 = 1) ↔ bt s i = true := by
    constructor
    · intro h
      rw [h, if_neg (by decide)] at hh
      cases hb : bt s i with
      | true => rfl
      | false => rw [hb] at hh; exact absurd hh (by decide)
    · intro h
      have h2 : bt (s >>> (nI i &&& 31)) 0 = true := by rw [b_sshr i hi s (by omega)]; simp [hi, h]
      apply b_ext
      intro j hj
      rw [b_and, b_1 j hj]
      by_cases q : j = 0
      · subst q; simp [h2]
      · simp [q]
  refine st_X6_has_0 ?_; simp only [bX6_has_0, exP, stP, p1, p2, pr, pobj, parr, sh0, sh1, sh2, sh3, sh4, sh5, sh6, sh7, sh8, sh9, sh10, sh11, sh12, sh13, sh14, sh15, sh16, sh17, sh18, sh19, sh20, sh21, sh22, sh23, sh24, sh25, sh26, sh27, sh28, sh29, sh30, sh31, sh32, sh33, sh34, sh35, sh36, sh37, sh38, sh39, sh40, sh41, sh42, sh43, sh44, sh45, sh46, sh47, sh48, sh49, sh50, sh51, sh52, sh53, sh54, sh55, sh56, sh57, sh58, sh59, brP, brN, swP, amask, apush, List.getElem?_cons_zero, List.getElem?_cons_succ, List.set_cons_zero, List.set_cons_succ, List.take_succ_cons, List.take_zero, List.drop_succ_cons, List.drop_zero, List.reverse_cons, List.reverse_nil, List.nil_append, List.cons_append, List.length_cons, List.length_nil, true_and, and_true, Nat.zero_le, Nat.reduceLeDiff, Nat.reduceAdd, Nat.reduceEqDiff, false_imp_iff, true_imp_iff, not_false_eq_true, not_true_eq_false, imp_self, forall_const]
  refine ⟨fun c => ?_, fun c => ?_⟩
  · have hb : bt s i = false := by
      cases hb : bt s i with
      | false => rfl
      | true => exact absurd (key.mpr hb) c
    refine st_X6_has_13 ?_; simp only [bX6_has_13, exP, stP, p1, p2, pr, pobj, parr, sh0, sh1, sh2, sh3, sh4, sh5, sh6, sh7, sh8, sh9, sh10, sh11, sh12, sh13, sh14, sh15, sh16, sh17, sh18, sh19, sh20, sh21, sh22, sh23, sh24, sh25, sh26, sh27, sh28, sh29, sh30, sh31, sh32, sh33, sh34, sh35, sh36, sh37, sh38, sh39, sh40, sh41, sh42, sh43, sh44, sh45, sh46, sh47, sh48, sh49, sh50, sh51, sh52, sh53, sh54, sh55, sh56, sh57, sh58, sh59, brP, brN, swP, amask, apush, List.getElem?_cons_zero, List.getElem?_cons_succ, List.set_cons_zero, List.set_cons_succ, List.take_succ_cons, List.take_zero, List.drop_succ_cons, List.drop_zero, List.reverse_cons, List.reverse_nil, List.nil_append, List.cons_append, List.length_cons, List.length_nil, true_and, and_true, Nat.zero_le, Nat.reduceLeDiff, Nat.reduceAdd, Nat.reduceEqDiff, false_imp_iff, true_imp_iff, not_false_eq_true, not_true_eq_false, imp_self, forall_const]
    refine st_X6_has_14 ?_; simp only [bX6_has_14, exP, stP, p1, p2, pr, pobj, parr, sh0, sh1, sh2, sh3, sh4, sh5, sh6, sh7, sh8, sh9, sh10, sh11, sh12, sh13, sh14, sh15, sh16, sh17, sh18, sh19, sh20, sh21, sh22, sh23, sh24, sh25, sh26, sh27, sh28, sh29, sh30, sh31, sh32, sh33, sh34, sh35, sh36, sh37, sh38, sh39, sh40, sh41, sh42, sh43, sh44, sh45, sh46, sh47, sh48, sh49, sh50, sh51, sh52, sh53, sh54, sh55, sh56, sh57, sh58, sh59, brP, brN, swP, amask, apush, List.getElem?_cons_zero, List.getElem?_cons_succ, List.set_cons_zero, List.set_cons_succ, List.take_succ_cons, List.take_zero, List.drop_succ_cons, List.drop_zero, List.reverse_cons, List.reverse_nil, List.nil_append, List.cons_append, List.length_cons, List.length_nil, true_and, and_true, Nat.zero_le, Nat.reduceLeDiff, Nat.reduceAdd, Nat.reduceEqDiff, false_imp_iff, true_imp_iff, not_false_eq_true, not_true_eq_false, imp_self, forall_const]
    simp [hb, b01]
  · have hb := key.mp c
    refine st_X6_has_9 ?_; simp only [bX6_has_9, exP, stP, p1, p2, pr, pobj, parr, sh0, sh1, sh2, sh3, sh4, sh5, sh6, sh7, sh8, sh9, sh10, sh11, sh12, sh13, sh14, sh15, sh16, sh17, sh18, sh19, sh20, sh21, sh22, sh23, sh24, sh25, sh26, sh27, sh28, sh29, sh30, sh31, sh32, sh33, sh34, sh35, sh36, sh37, sh38, sh39, sh40, sh41, sh42, sh43, sh44, sh45, sh46, sh47, sh48, sh49, sh50, sh51, sh52, sh53, sh54, sh55, sh56, sh57, sh58, sh59, brP, brN, swP, amask, apush, List.getElem?_cons_zero, List.getElem?_cons_succ, List.set_cons_zero, List.set_cons_succ, List.take_succ_cons, List.take_zero, List.drop_succ_cons, List.drop_zero, List.reverse_cons, List.reverse_nil, List.nil_append, List.cons_append, List.length_cons, List.length_nil, true_and, and_true, Nat.zero_le, Nat.reduceLeDiff, Nat.reduceAdd, Nat.reduceEqDiff, false_imp_iff, true_imp_iff, not_false_eq_true, not_true_eq_false, imp_self, forall_const]
    refine st_X6_has_14 ?_; simp only [bX6_has_14, exP, stP, p1, p2, pr, pobj, parr, sh0, sh1, sh2, sh3, sh4, sh5, sh6, sh7, sh8, sh9, sh10, sh11, sh12, sh13, sh14, sh15, sh16, sh17, sh18, sh19, sh20, sh21, sh22, sh23, sh24, sh25, sh26, sh27, sh28, sh29, sh30, sh31, sh32, sh33, sh34, sh35, sh36, sh37, sh38, sh39, sh40, sh41, sh42, sh43, sh44, sh45, sh46, sh47, sh48, sh49, sh50, sh51, sh52, sh53, sh54, sh55, sh56, sh57, sh58, sh59, brP, brN, swP, amask, apush, List.getElem?_cons_zero, List.getElem?_cons_succ, List.set_cons_zero, List.set_cons_succ, List.take_succ_cons, List.take_zero, List.drop_succ_cons, List.drop_zero, List.reverse_cons, List.reverse_nil, List.nil_append, List.cons_append, List.length_cons, List.length_nil, true_and, and_true, Nat.zero_le, Nat.reduceLeDiff, Nat.reduceAdd, Nat.reduceEqDiff, false_imp_iff, true_imp_iff, not_false_eq_true, not_true_eq_false, imp_self, forall_const]
    simp [hb, b01]
def wtg (m : AM) (i : Nat) : Int := (m 44 i).toInt
theorem wsN_range2 {wt : Nat → Int} {t nd : Nat} (h : ∀ i, i < nd → 0 ≤ wt i ∧ wt i ≤ 99) : ∀ n, n ≤ nd → 0 ≤ wsN wt t n ∧ wsN wt t n ≤ 99 * n
  | 0, _ => ⟨Int.le_refl _, by show (0 : Int) ≤ _; omega⟩
  | n + 1, hn => by
    have h1 := wsN_range2 (t := t) h n (by omega)
    have h2 := h n (by omega)
    unfold wsN
    split <;> omega
theorem c_weightOf (m : AM) (nd : Nat) (hnd : nd ≤ 12) (hn : m 34 6 = nI nd) (hw : ∀ i, i < nd → 0 ≤ wtg m i ∧ wtg m i ≤ 99) (t : Nat) (ht : t < 4096) : AC 1 kX6_weightOf [.inr 34, .inl (nI t)] m (fun z u => m = u ∧ ∃ x, z = some x ∧ x.toInt = wsN (wtg m) t nd) := by
  refine AC_of own_X6_weightOf (ls := [some (.inr 34), some (.inl (nI t)), none, none]) (z := 2) (Nat.le_of_ble_eq_true rfl) rfl ?_
  have loop : ∀ (n j : Nat) (x : Int32), j + n = nd → x.toInt = wsN (wtg m) t j → AW 1 kX6_weightOf (fun z u => m = u ∧ ∃ x, z = some x ∧ x.toInt = wsN (wtg m) t nd) 4 [some (.inr 34), some (.inl (nI t)), some (.inl x), some (.inl (nI j))] [] m := by
    intro n
    induction n with
    | zero =>
      intro j x h hx
      obtain rfl : j = nd := by omega
      refine st_X6_weightOf_4 ?_; simp only [bX6_weightOf_4, exP, stP, p1, p2, pr, pobj, parr, sh0, sh1, sh2, sh3, sh4, sh5, sh6, sh7, sh8, sh9, sh10, sh11, sh12, sh13, sh14, sh15, sh16, sh17, sh18, sh19, sh20, sh21, sh22, sh23, sh24, sh25, sh26, sh27, sh28, sh29, sh30, sh31, sh32, sh33, sh34, sh35, sh36, sh37, sh38, sh39, sh40, sh41, sh42, sh43, sh44, sh45, sh46, sh47, sh48, sh49, sh50, sh51, sh52, sh53, sh54, sh55, sh56, sh57, sh58, sh59, brP, brN, swP, amask, apush, List.getElem?_cons_zero, List.getElem?_cons_succ, List.set_cons_zero, List.set_cons_succ, List.take_succ_cons, List.take_zero, List.drop_succ_cons, List.drop_zero, List.reverse_cons, List.reverse_nil, List.nil_append, List.cons_append, List.length_cons, List.length_nil, true_and, and_true, Nat.zero_le, Nat.reduceLeDiff, Nat.reduceAdd, Nat.reduceEqDiff, false_imp_iff, true_imp_iff, not_false_eq_true, not_true_eq_false, imp_self, forall_const, hn, eq_true (nI_le (Nat.le_refl j) (show j < 2 ^ 31 by omega))]
      refine st_X6_weightOf_39 ?_; simp only [bX6_weightOf_39, exP, stP, p1, p2, pr, pobj, parr, sh0, sh1, sh2, sh3, sh4, sh5, sh6, sh7, sh8, sh9, sh10, sh11, sh12, sh13, sh14, sh15, sh16, sh17, sh18, sh19, sh20, sh21, sh22, sh23, sh24, sh25, sh26, sh27, sh28, sh29, sh30, sh31, sh32, sh33, sh34, sh35, sh36, sh37, sh38, sh39, sh40, sh41, sh42, sh43, sh44, sh45, sh46, sh47, sh48, sh49, sh50, sh51, sh52, sh53, sh54, sh55, sh56, sh57, sh58, sh59, brP, brN, swP, amask, apush, List.getElem?_cons_zero, List.getElem?_cons_succ, List.set_cons_zero, List.set_cons_succ, List.take_succ_cons, List.take_zero, List.drop_succ_cons, List.drop_zero, List.reverse_cons, List.reverse_nil, List.nil_append, List.cons_append, List.length_cons, List.length_nil, true_and, and_true, Nat.zero_le, Nat.reduceLeDiff, Nat.reduceAdd, Nat.reduceEqDiff, false_imp_iff, true_imp_iff, not_false_eq_true, not_true_eq_false, imp_self, forall_const]
      exact ⟨Or.inl trivial, x, rfl, hx⟩
    | succ n ih =>
      intro j x h hx
      have vj := eq_true (vp_in_nI (show j < 12 by omega) (show 12 < 2 ^ 31 by omega))
      have cj := nI_clamp (show j < 2 ^ 31 by omega)
      have hr := wsN_range2 (t := t) hw j (by omega)
      have hwj := hw j (by omega)
      refine st_X6_weightOf_4 ?_; simp only [bX6_weightOf_4, exP, stP, p1, p2, pr, pobj, parr, sh0, sh1, sh2, sh3, sh4, sh5, sh6, sh7, sh8, sh9, sh10, sh11, sh12, sh13, sh14, sh15, sh16, sh17, sh18, sh19, sh20, sh21, sh22, sh23, sh24, sh25, sh26, sh27, sh28, sh29, sh30, sh31, sh32, sh33, sh34, sh35, sh36, sh37, sh38, sh39, sh40, sh41, sh42, sh43, sh44, sh45, sh46, sh47, sh48, sh49, sh50, sh51, sh52, sh53, sh54, sh55, sh56, sh57, sh58, sh59, brP, brN, swP, amask, apush, List.getElem?_cons_zero, List.getElem?_cons_succ, List.set_cons_zero, List.set_cons_succ, List.take_succ_cons, List.take_zero, List.drop_succ_cons, List.drop_zero, List.reverse_cons, List.reverse_nil, List.nil_append, List.cons_append, List.length_cons, List.length_nil, true_and, and_true, Nat.zero_le, Nat.reduceLeDiff, Nat.reduceAdd, Nat.reduceEqDiff, false_imp_iff, true_imp_iff, not_false_eq_true, not_true_eq_false, imp_self, forall_const, hn, eq_false (nI_ge (show j < nd by omega) (show nd < 2 ^ 31 by omega))]
      refine st_X6_weightOf_12 ?_; simp only [bX6_weightOf_12, exP, stP, p1, p2, pr, pobj, parr, sh0, sh1, sh2, sh3, sh4, sh5, sh6, sh7, sh8, sh9, sh10, sh11, sh12, sh13, sh14, sh15, sh16, sh17, sh18, sh19, sh20, sh21, sh22, sh23, sh24, sh25, sh26, sh27, sh28, sh29, sh30, sh31, sh32, sh33, sh34, sh35, sh36, sh37, sh38, sh39, sh40, sh41, sh42, sh43, sh44, sh45, sh46, sh47, sh48, sh49, sh50, sh51, sh52, sh53, sh54, sh55, sh56, sh57, sh58, sh59, brP, brN, swP, amask, apush, List.getElem?_cons_zero, List.getElem?_cons_succ, List.set_cons_zero, List.set_cons_succ, List.take_succ_cons, List.take_zero, List.drop_succ_cons, List.drop_zero, List.reverse_cons, List.reverse_nil, List.nil_append, List.cons_append, List.length_cons, List.length_nil, true_and, and_true, Nat.zero_le, Nat.reduceLeDiff, Nat.reduceAdd, Nat.reduceEqDiff, false_imp_iff, true_imp_iff, not_false_eq_true, not_true_eq_false, imp_self, forall_const]
      refine ⟨_, ⟨0, by decide, c_mhas _ _ j (by omega)⟩, ?_⟩; rintro _ _ ⟨rfl, rfl⟩; simp only [exP, stP, p1, p2, pr, pobj, parr, sh0, sh1, sh2, sh3, sh4, sh5, sh6, sh7, sh8, sh9, sh10, sh11, sh12, sh13, sh14, sh15, sh16, sh17, sh18, sh19, sh20, sh21, sh22, sh23, sh24, sh25, sh26, sh27, sh28, sh29, sh30, sh31, sh32, sh33, sh34, sh35, sh36, sh37, sh38, sh39, sh40, sh41, sh42, sh43, sh44, sh45, sh46, sh47, sh48, sh49, sh50, sh51, sh52, sh53, sh54, sh55, sh56, sh57, sh58, sh59, brP, brN, swP, amask, apush, List.getElem?_cons_zero, List.getElem?_cons_succ, List.set_cons_zero, List.set_cons_succ, List.take_succ_cons, List.take_zero, List.drop_succ_cons, List.drop_zero, List.reverse_cons, List.reverse_nil, List.nil_append, List.cons_append, List.length_cons, List.length_nil, true_and, and_true, Nat.zero_le, Nat.reduceLeDiff, Nat.reduceAdd, Nat.reduceEqDiff, false_imp_iff, true_imp_iff, not_false_eq_true, not_true_eq_false, imp_self, forall_const, b01_0, bt_nI (show t < 4294967296 by omega)]
      refine ⟨fun c => ?_, fun c => ?_⟩
      · refine st_X6_weightOf_30 ?_; simp only [bX6_weightOf_30, exP, stP, p1, p2, pr, pobj, parr, sh0, sh1, sh2, sh3, sh4, sh5, sh6, sh7, sh8, sh9, sh10, sh11, sh12, sh13, sh14, sh15, sh16, sh17, sh18, sh19, sh20, sh21, sh22, sh23, sh24, sh25, sh26, sh27, sh28, sh29, sh30, sh31, sh32, sh33, sh34, sh35, sh36, sh37, sh38, sh39, sh40, sh41, sh42, sh43, sh44, sh45, sh46, sh47, sh48, sh49, sh50, sh51, sh52, sh53, sh54, sh55, sh56, sh57, sh58, sh59, brP, brN, swP, amask, apush, List.getElem?_cons_zero, List.getElem?_cons_succ, List.set_cons_zero, List.set_cons_succ, List.take_succ_cons, List.take_zero, List.drop_succ_cons, List.drop_zero, List.reverse_cons, List.reverse_nil, List.nil_append, List.cons_append, List.length_cons, List.length_nil, true_and, and_true, Nat.zero_le, Nat.reduceLeDiff, Nat.reduceAdd, Nat.reduceEqDiff, false_imp_iff, true_imp_iff, not_false_eq_true, not_true_eq_false, imp_self, forall_const]
        refine st_X6_weightOf_31 ?_; simp only [bX6_weightOf_31, exP, stP, p1, p2, pr, pobj, parr, sh0, sh1, sh2, sh3, sh4, sh5, sh6, sh7, sh8, sh9, sh10, sh11, sh12, sh13, sh14, sh15, sh16, sh17, sh18, sh19, sh20, sh21, sh22, sh23, sh24, sh25, sh26, sh27, sh28, sh29, sh30, sh31, sh32, sh33, sh34, sh35, sh36, sh37, sh38, sh39, sh40, sh41, sh42, sh43, sh44, sh45, sh46, sh47, sh48, sh49, sh50, sh51, sh52, sh53, sh54, sh55, sh56, sh57, sh58, sh59, brP, brN, swP, amask, apush, List.getElem?_cons_zero, List.getElem?_cons_succ, List.set_cons_zero, List.set_cons_succ, List.take_succ_cons, List.take_zero, List.drop_succ_cons, List.drop_zero, List.reverse_cons, List.reverse_nil, List.nil_append, List.cons_append, List.length_cons, List.length_nil, true_and, and_true, Nat.zero_le, Nat.reduceLeDiff, Nat.reduceAdd, Nat.reduceEqDiff, false_imp_iff, true_imp_iff, not_false_eq_true, not_true_eq_false, imp_self, forall_const]
        rw [nI_1]
        refine ih (j + 1) _ (by omega) ?_
        unfold wsN
        rw [c, i32_add (by show -2147483648 ≤ x.toInt + 0; omega) (by show x.toInt + 0 < 2147483648; omega), hx]
        simp
      · have c2 : t.testBit j = true := by simpa using c
        refine st_X6_weightOf_21 ?_; simp only [bX6_weightOf_21, exP, stP, p1, p2, pr, pobj, parr, sh0, sh1, sh2, sh3, sh4, sh5, sh6, sh7, sh8, sh9, sh10, sh11, sh12, sh13, sh14, sh15, sh16, sh17, sh18, sh19, sh20, sh21, sh22, sh23, sh24, sh25, sh26, sh27, sh28, sh29, sh30, sh31, sh32, sh33, sh34, sh35, sh36, sh37, sh38, sh39, sh40, sh41, sh42, sh43, sh44, sh45, sh46, sh47, sh48, sh49, sh50, sh51, sh52, sh53, sh54, sh55, sh56, sh57, sh58, sh59, brP, brN, swP, amask, apush, List.getElem?_cons_zero, List.getElem?_cons_succ, List.set_cons_zero, List.set_cons_succ, List.take_succ_cons, List.take_zero, List.drop_succ_cons, List.drop_zero, List.reverse_cons, List.reverse_nil, List.nil_append, List.cons_append, List.length_cons, List.length_nil, true_and, and_true, Nat.zero_le, Nat.reduceLeDiff, Nat.reduceAdd, Nat.reduceEqDiff, false_imp_iff, true_imp_iff, not_false_eq_true, not_true_eq_false, imp_self, forall_const, vj, cj]
        refine st_X6_weightOf_31 ?_; simp only [bX6_weightOf_31, exP, stP, p1, p2, pr, pobj, parr, sh0, sh1, sh2, sh3, sh4, sh5, sh6, sh7, sh8, sh9, sh10, sh11, sh12, sh13, sh14, sh15, sh16, sh17, sh18, sh19, sh20, sh21, sh22, sh23, sh24, sh25, sh26, sh27, sh28, sh29, sh30, sh31, sh32, sh33, sh34, sh35, sh36, sh37, sh38, sh39, sh40, sh41, sh42, sh43, sh44, sh45, sh46, sh47, sh48, sh49, sh50, sh51, sh52, sh53, sh54, sh55, sh56, sh57, sh58, sh59, brP, brN, swP, amask, apush, List.getElem?_cons_zero, List.getElem?_cons_succ, List.set_cons_zero, List.set_cons_succ, List.take_succ_cons, List.take_zero, List.drop_succ_cons, List.drop_zero, List.reverse_cons, List.reverse_nil, List.nil_append, List.cons_append, List.length_cons, List.length_nil, true_and, and_true, Nat.zero_le, Nat.reduceLeDiff, Nat.reduceAdd, Nat.reduceEqDiff, false_imp_iff, true_imp_iff, not_false_eq_true, not_true_eq_false, imp_self, forall_const]
        rw [nI_1]
        refine ih (j + 1) _ (by omega) ?_
        unfold wtg at hwj
        unfold wsN
        rw [if_pos c2, i32_add (by omega) (by omega), hx]
        rfl
  refine st_X6_weightOf_0 ?_; simp only [bX6_weightOf_0, exP, stP, p1, p2, pr, pobj, parr, sh0, sh1, sh2, sh3, sh4, sh5, sh6, sh7, sh8, sh9, sh10, sh11, sh12, sh13, sh14, sh15, sh16, sh17, sh18, sh19, sh20, sh21, sh22, sh23, sh24, sh25, sh26, sh27, sh28, sh29, sh30, sh31, sh32, sh33, sh34, sh35, sh36, sh37, sh38, sh39, sh40, sh41, sh42, sh43, sh44, sh45, sh46, sh47, sh48, sh49, sh50, sh51, sh52, sh53, sh54, sh55, sh56, sh57, sh58, sh59, brP, brN, swP, amask, apush, List.getElem?_cons_zero, List.getElem?_cons_succ, List.set_cons_zero, List.set_cons_succ, List.take_succ_cons, List.take_zero, List.drop_succ_cons, List.drop_zero, List.reverse_cons, List.reverse_nil, List.nil_append, List.cons_append, List.length_cons, List.length_nil, true_and, and_true, Nat.zero_le, Nat.reduceLeDiff, Nat.reduceAdd, Nat.reduceEqDiff, false_imp_iff, true_imp_iff, not_false_eq_true, not_true_eq_false, imp_self, forall_const]
  exact loop nd 0 0 (by omega) rfl
set_option maxRecDepth 100000 in
theorem kern_64 : (List.range 64).all (fun a => (List.range 64).all (fun b => (a * 64 + b == 0) || (decide (sz ((a * 64 + b) &&& (a * 64 + b - 1)) + 1 = sz (a * 64 + b)) && decide ((a * 64 + b) &&& (a * 64 + b - 1) < a * 64 + b)))) = true := by decide +kernel
theorem kern_sz {t : Nat} (h : t < 4096) (h0 : t ≠ 0) : sz (t &&& (t - 1)) + 1 = sz t ∧ t &&& (t - 1) < t := by
  have h1 := List.all_eq_true.mp kern_64 (t / 64) (List.mem_range.mpr (by omega))
  have h2 := List.all_eq_true.mp h1 (t % 64) (List.mem_range.mpr (by omega))
  have e : t / 64 * 64 + t % 64 = t := by omega
  rw [e] at h2
  simp only [Bool.or_eq_true, Bool.and_eq_true, beq_iff_eq, decide_eq_true_eq] at h2
  rcases h2 with h2 | h2
  · exact absurd h2 h0
  · exact h2
theorem nI_and {a b : Nat} (ha : a < 4294967296) (hb : b < 4294967296) : nI a &&& nI b = nI (a &&& b) := by
  apply b_ext
  intro i hi
  have h : a &&& b < 4294967296 := Nat.lt_of_le_of_lt Nat.and_le_left ha
  rw [b_and, bt_nI ha, bt_nI hb, bt_nI h, Nat.testBit_and]
theorem c_sizeOf (m : AM) (t : Nat) (ht : t < 4096) : AC 0 kX6_sizeOf [.inl (nI t)] m (fun z u => m = u ∧ z = some (nI (sz t))) := by
  refine AC_of own_X6_sizeOf (ls := [some (.inl (nI t)), none, none]) (z := 2) (Nat.le_of_ble_eq_true rfl) rfl ?_
  have loop : ∀ (n v k : Nat), v ≤ n → v < 4096 → k + sz v = sz t → AW 0 kX6_sizeOf (fun z u => m = u ∧ z = some (nI (sz t))) 4 [none, some (.inl (nI k)), some (.inl (nI v))] [] m := by
    intro n
    induction n with
    | zero =>
      intro v k hv _ hk
      obtain rfl : v = 0 := by omega
      have : sz 0 = 0 := by decide
      obtain rfl : k = sz t := by omega
      refine st_X6_sizeOf_4 ?_; simp only [bX6_sizeOf_4, exP, stP, p1, p2, pr, pobj, parr, sh0, sh1, sh2, sh3, sh4, sh5, sh6, sh7, sh8, sh9, sh10, sh11, sh12, sh13, sh14, sh15, sh16, sh17, sh18, sh19, sh20, sh21, sh22, sh23, sh24, sh25, sh26, sh27, sh28, sh29, sh30, sh31, sh32, sh33, sh34, sh35, sh36, sh37, sh38, sh39, sh40, sh41, sh42, sh43, sh44, sh45, sh46, sh47, sh48, sh49, sh50, sh51, sh52, sh53, sh54, sh55, sh56, sh57, sh58, sh59, brP, brN, swP, amask, apush, List.getElem?_cons_zero, List.getElem?_cons_succ, List.set_cons_zero, List.set_cons_succ, List.take_succ_cons, List.take_zero, List.drop_succ_cons, List.drop_zero, List.reverse_cons, List.reverse_nil, List.nil_append, List.cons_append, List.length_cons, List.length_nil, true_and, and_true, Nat.zero_le, Nat.reduceLeDiff, Nat.reduceAdd, Nat.reduceEqDiff, false_imp_iff, true_imp_iff, not_false_eq_true, not_true_eq_false, imp_self, forall_const, eq_true (show nI 0 = 0 from rfl)]
      refine st_X6_sizeOf_20 ?_; simp only [bX6_sizeOf_20, exP, stP, p1, p2, pr, pobj, parr, sh0, sh1, sh2, sh3, sh4, sh5, sh6, sh7, sh8, sh9, sh10, sh11, sh12, sh13, sh14, sh15, sh16, sh17, sh18, sh19, sh20, sh21, sh22, sh23, sh24, sh25, sh26, sh27, sh28, sh29, sh30, sh31, sh32, sh33, sh34, sh35, sh36, sh37, sh38, sh39, sh40, sh41, sh42, sh43, sh44, sh45, sh46, sh47, sh48, sh49, sh50, sh51, sh52, sh53, sh54, sh55, sh56, sh57, sh58, sh59, brP, brN, swP, amask, apush, List.getElem?_cons_zero, List.getElem?_cons_succ, List.set_cons_zero, List.set_cons_succ, List.take_succ_cons, List.take_zero, List.drop_succ_cons, List.drop_zero, List.reverse_cons, List.reverse_nil, List.nil_append, List.cons_append, List.length_cons, List.length_nil, true_and, and_true, Nat.zero_le, Nat.reduceLeDiff, Nat.reduceAdd, Nat.reduceEqDiff, false_imp_iff, true_imp_iff, not_false_eq_true, not_true_eq_false, imp_self, forall_const]
      simp
    | succ n ih =>
      intro v k hv hv2 hk
      by_cases h0 : v = 0
      · subst h0
        have : sz 0 = 0 := by decide
        obtain rfl : k = sz t := by omega
        refine st_X6_sizeOf_4 ?_; simp only [bX6_sizeOf_4, exP, stP, p1, p2, pr, pobj, parr, sh0, sh1, sh2, sh3, sh4, sh5, sh6, sh7, sh8, sh9, sh10, sh11, sh12, sh13, sh14, sh15, sh16, sh17, sh18, sh19, sh20, sh21, sh22, sh23, sh24, sh25, sh26, sh27, sh28, sh29, sh30, sh31, sh32, sh33, sh34, sh35, sh36, sh37, sh38, sh39, sh40, sh41, sh42, sh43, sh44, sh45, sh46, sh47, sh48, sh49, sh50, sh51, sh52, sh53, sh54, sh55, sh56, sh57, sh58, sh59, brP, brN, swP, amask, apush, List.getElem?_cons_zero, List.getElem?_cons_succ, List.set_cons_zero, List.set_cons_succ, List.take_succ_cons, List.take_zero, List.drop_succ_cons, List.drop_zero, List.reverse_cons, List.reverse_nil, List.nil_append, List.cons_append, List.length_cons, List.length_nil, true_and, and_true, Nat.zero_le, Nat.reduceLeDiff, Nat.reduceAdd, Nat.reduceEqDiff, false_imp_iff, true_imp_iff, not_false_eq_true, not_true_eq_false, imp_self, forall_const, eq_true (show nI 0 = 0 from rfl)]
        refine st_X6_sizeOf_20 ?_; simp only [bX6_sizeOf_20, exP, stP, p1, p2, pr, pobj, parr, sh0, sh1, sh2, sh3, sh4, sh5, sh6, sh7, sh8, sh9, sh10, sh11, sh12, sh13, sh14, sh15, sh16, sh17, sh18, sh19, sh20, sh21, sh22, sh23, sh24, sh25, sh26, sh27, sh28, sh29, sh30, sh31, sh32, sh33, sh34, sh35, sh36, sh37, sh38, sh39, sh40, sh41, sh42, sh43, sh44, sh45, sh46, sh47, sh48, sh49, sh50, sh51, sh52, sh53, sh54, sh55, sh56, sh57, sh58, sh59, brP, brN, swP, amask, apush, List.getElem?_cons_zero, List.getElem?_cons_succ, List.set_cons_zero, List.set_cons_succ, List.take_succ_cons, List.take_zero, List.drop_succ_cons, List.drop_zero, List.reverse_cons, List.reverse_nil, List.nil_append, List.cons_append, List.length_cons, List.length_nil, true_and, and_true, Nat.zero_le, Nat.reduceLeDiff, Nat.reduceAdd, Nat.reduceEqDiff, false_imp_iff, true_imp_iff, not_false_eq_true, not_true_eq_false, imp_self, forall_const]
        simp
      · have hk2 := kern_sz hv2 h0
        have e1 : nI v - 1 = nI (v - 1) := by
          obtain ⟨w, rfl⟩ : ∃ w, v = w + 1 := ⟨v - 1, by omega⟩
          exact nI_pred w
        refine st_X6_sizeOf_4 ?_; simp only [bX6_sizeOf_4, exP, stP, p1, p2, pr, pobj, parr, sh0, sh1, sh2, sh3, sh4, sh5, sh6, sh7, sh8, sh9, sh10, sh11, sh12, sh13, sh14, sh15, sh16, sh17, sh18, sh19, sh20, sh21, sh22, sh23, sh24, sh25, sh26, sh27, sh28, sh29, sh30, sh31, sh32, sh33, sh34, sh35, sh36, sh37, sh38, sh39, sh40, sh41, sh42, sh43, sh44, sh45, sh46, sh47, sh48, sh49, sh50, sh51, sh52, sh53, sh54, sh55, sh56, sh57, sh58, sh59, brP, brN, swP, amask, apush, List.getElem?_cons_zero, List.getElem?_cons_succ, List.set_cons_zero, List.set_cons_succ, List.take_succ_cons, List.take_zero, List.drop_succ_cons, List.drop_zero, List.reverse_cons, List.reverse_nil, List.nil_append, List.cons_append, List.length_cons, List.length_nil, true_and, and_true, Nat.zero_le, Nat.reduceLeDiff, Nat.reduceAdd, Nat.reduceEqDiff, false_imp_iff, true_imp_iff, not_false_eq_true, not_true_eq_false, imp_self, forall_const, eq_false (nI_ne0 (show 0 < v by omega) (show v < 2 ^ 31 by omega))]
        refine st_X6_sizeOf_8 ?_; simp only [bX6_sizeOf_8, exP, stP, p1, p2, pr, pobj, parr, sh0, sh1, sh2, sh3, sh4, sh5, sh6, sh7, sh8, sh9, sh10, sh11, sh12, sh13, sh14, sh15, sh16, sh17, sh18, sh19, sh20, sh21, sh22, sh23, sh24, sh25, sh26, sh27, sh28, sh29, sh30, sh31, sh32, sh33, sh34, sh35, sh36, sh37, sh38, sh39, sh40, sh41, sh42, sh43, sh44, sh45, sh46, sh47, sh48, sh49, sh50, sh51, sh52, sh53, sh54, sh55, sh56, sh57, sh58, sh59, brP, brN, swP, amask, apush, List.getElem?_cons_zero, List.getElem?_cons_succ, List.set_cons_zero, List.set_cons_succ, List.take_succ_cons, List.take_zero, List.drop_succ_cons, List.drop_zero, List.reverse_cons, List.reverse_nil, List.nil_append, List.cons_append, List.length_cons, List.length_nil, true_and, and_true, Nat.zero_le, Nat.reduceLeDiff, Nat.reduceAdd, Nat.reduceEqDiff, false_imp_iff, true_imp_iff, not_false_eq_true, not_true_eq_false, imp_self, forall_const]
        rw [nI_1, e1, nI_and (by omega) (by omega)]
        exact ih _ (k + 1) (by omega) (by omega) (by omega)
  refine st_X6_sizeOf_0 ?_; simp only [bX6_sizeOf_0, exP, stP, p1, p2, pr, pobj, parr, sh0, sh1, sh2, sh3, sh4, sh5, sh6, sh7, sh8, sh9, sh10, sh11, sh12, sh13, sh14, sh15, sh16, sh17, sh18, sh19, sh20, sh21, sh22, sh23, sh24, sh25, sh26, sh27, sh28, sh29, sh30, sh31, sh32, sh33, sh34, sh35, sh36, sh37, sh38, sh39, sh40, sh41, sh42, sh43, sh44, sh45, sh46, sh47, sh48, sh49, sh50, sh51, sh52, sh53, sh54, sh55, sh56, sh57, sh58, sh59, brP, brN, swP, amask, apush, List.getElem?_cons_zero, List.getElem?_cons_succ, List.set_cons_zero, List.set_cons_succ, List.take_succ_cons, List.take_zero, List.drop_succ_cons, List.drop_zero, List.reverse_cons, List.reverse_nil, List.nil_append, List.cons_append, List.length_cons, List.length_nil, true_and, and_true, Nat.zero_le, Nat.reduceLeDiff, Nat.reduceAdd, Nat.reduceEqDiff, false_imp_iff, true_imp_iff, not_false_eq_true, not_true_eq_false, imp_self, forall_const]
  exact loop t t 0 (Nat.le_refl _) ht (by omega)
end
section
/-! ===== the reference: years ===== -/
def gF (m : AM) (d : Nat) : Int := (m 53 d).toInt
def gL (m : AM) (d : Nat) : Int := (m 54 d).toInt
def gC (m : AM) (a b : Nat) : Option Int := if a = b then none else if m 56 (12 * a + b) = 0 then (if m 55 (12 * a + b) = 0 then none else some (m 34 2).toInt) else some 0
/-- the reference's rows are years; nd deeds -/
def GW (m : AM) (nd : Nat) : Prop := nd ≤ 12 ∧ m 34 6 = nI nd ∧ (∀ d, d < nd → 0 ≤ gF m d ∧ gF m d ≤ 3000 ∧ 0 ≤ gL m d ∧ gL m d ≤ 3000) ∧ (0 ≤ (m 34 2).toInt ∧ (m 34 2).toInt ≤ 200) ∧ ∀ a b, a < nd → b < nd → (m 55 (12 * a + b) = 0 ↔ m 55 (12 * b + a) = 0)
theorem GW_c {m : AM} {nd : Nat} (h : GW m nd) : ∀ a b c, gC m a b = some c → 0 ≤ c ∧ c ≤ 200 := by
  intro a b c hc
  have := h.2.2.2.1
  unfold gC at hc
  split at hc
  · cases hc
  · split at hc
    · split at hc
      · cases hc
      · cases hc; omega
    · cases hc; omega
theorem nI_12 (a b : Nat) : (12 : Int32) * nI a + nI b = nI (12 * a + b) := by rw [nI_litmul _ 12, nI_add]
def inN (t nd : Nat) : Prop := ∀ i, t.testBit i = true → i < nd
def sumZ (f : Nat → Int) : Nat → Int
  | 0 => 0
  | n + 1 => sumZ f n + f n
theorem sumZ_le {f g : Nat → Int} : ∀ n, (∀ i, i < n → f i ≤ g i) → sumZ f n ≤ sumZ g n
  | 0, _ => Int.le_refl _
  | n + 1, h => by
    have h1 := sumZ_le n (fun i hi => h i (by omega))
    have h2 := h n (by omega)
    unfold sumZ
    omega
theorem sumZ_lt {f g : Nat → Int} {j : Nat} : ∀ n, (∀ i, i < n → f i ≤ g i) → j < n → f j < g j → sumZ f n < sumZ g n
  | 0, _, hj, _ => by omega
  | n + 1, h, hj, hlt => by
    have h2 := h n (by omega)
    unfold sumZ
    by_cases q : j = n
    · subst q
      have h1 := sumZ_le j (fun i hi => h i (by omega))
      omega
    · have h1 := sumZ_lt n (fun i hi => h i (by omega)) (show j < n by omega) hlt
      omega
theorem sumZ_nn {f : Nat → Int} : ∀ n, (∀ i, i < n → 0 ≤ f i) → 0 ≤ sumZ f n
  | 0, _ => Int.le_refl _
  | n + 1, h => by
    have h1 := sumZ_nn n (fun i hi => h i (by omega))
    have h2 := h n (by omega)
    unfold sumZ
    omega
/-- what a pass of ups has done so far -/
def UPI (m : AM) (nd t : Nat) (m0 u : AM) (ch : Bool) (P : Nat → Nat → Prop) : Prop :=
  (∀ k, k ≠ 57 → u k = m k) ∧ (∀ b, b < nd → (m0 57 b).toInt ≤ (u 57 b).toInt ∧ (u 57 b).toInt ≤ 3000 ∧ gF m b ≤ (u 57 b).toInt) ∧
  (∀ y : Nat → Int, (∀ b, b < 12 → t.testBit b = true → gF m b ≤ y b) → clo (gC m) t y → ∀ b, b < 12 → t.testBit b = true → (u 57 b).toInt ≤ y b) ∧
  (ch = false → (∀ b, b < nd → u 57 b = m0 57 b) ∧ ∀ a b c, a < nd → b < nd → P a b → t.testBit a = true → t.testBit b = true → gC m a b = some c → (m0 57 b).toInt - c ≤ (m0 57 a).toInt) ∧
  (ch = true → ∃ b, b < nd ∧ (m0 57 b).toInt < (u 57 b).toInt)
theorem UPI.P {m : AM} {nd t : Nat} {m0 u : AM} {ch : Bool} {P P' : Nat → Nat → Prop} (h : UPI m nd t m0 u ch P) (hp : ∀ a b c, a < nd → b < nd → t.testBit a = true → t.testBit b = true → gC m a b = some c → P' a b → P a b) : UPI m nd t m0 u ch P' :=
  ⟨h.1, h.2.1, h.2.2.1, fun q => ⟨(h.2.2.2.1 q).1, fun a b c ha hb hP hta htb hc => (h.2.2.2.1 q).2 a b c ha hb (hp a b c ha hb hta htb hc hP) hta htb hc⟩, h.2.2.2.2⟩
def UPQ (m : AM) (t : Nat) : APost := fun z u => z = none ∧ (∀ k, k ≠ 57 → u k = m k) ∧ isM (gF m) (gC m) t (fun b => (u 57 b).toInt)
theorem w_ups_in (m : AM) (nd t : Nat) (hG : GW m nd) (ht : t < 4096) (m0 : AM) (d : Nat) (hd : d < nd)
    (kk : ∀ u ch, UPI m nd t m0 u ch (fun a _ => a < d + 1) → AW 1 kX6_ups (UPQ m t) 177 [some (.inr 34), some (.inl (nI t)), some (.inl (b01 ch)), some (.inl (nI d)), none, none] [] u) :
    ∀ (n j : Nat) (u : AM) (ch : Bool), j + n = nd → UPI m nd t m0 u ch (fun a b => a < d ∨ (a = d ∧ b < j)) → AW 1 kX6_ups (UPQ m t) 49 [some (.inr 34), some (.inl (nI t)), some (.inl (b01 ch)), some (.inl (nI d)), some (.inl (nI j)), none] [] u
  | 0, j, u, ch, h, hI => by
    obtain rfl : j = nd := by omega
    have hnd := hG.1
    have hn : u 34 6 = nI j := by rw [hI.1 34 (by omega)]; exact hG.2.1
    refine st_X6_ups_49 ?_; simp only [bX6_ups_49, exP, stP, p1, p2, pr, pobj, parr, sh0, sh1, sh2, sh3, sh4, sh5, sh6, sh7, sh8, sh9, sh10, sh11, sh12, sh13, sh14, sh15, sh16, sh17, sh18, sh19, sh20, sh21, sh22, sh23, sh24, sh25, sh26, sh27, sh28, sh29, sh30, sh31, sh32, sh33, sh34, sh35, sh36, sh37, sh38, sh39, sh40, sh41, sh42, sh43, sh44, sh45, sh46, sh47, sh48, sh49, sh50, sh51, sh52, sh53, sh54, sh55, sh56, sh57, sh58, sh59, brP, brN, swP, amask, apush, List.getElem?_cons_zero, List.getElem?_cons_succ, List.set_cons_zero, List.set_cons_succ, List.take_succ_cons, List.take_zero, List.drop_succ_cons, List.drop_zero, List.reverse_cons, List.reverse_nil, List.nil_append, List.cons_append, List.length_cons, List.length_nil, true_and, and_true, Nat.zero_le, Nat.reduceLeDiff, Nat.reduceAdd, Nat.reduceEqDiff, false_imp_iff, true_imp_iff, not_false_eq_true, not_true_eq_false, imp_self, forall_const, hn, eq_true (nI_le (Nat.le_refl j) (show j < 2 ^ 31 by omega))]
    exact kk u ch (hI.P (fun a b c ha hb _ _ _ q => by omega))
  | n + 1, j, u, ch, h, hI => by
    have hnd := hG.1
    have hj : j < nd := by omega
    have hn : u 34 6 = nI nd := by rw [hI.1 34 (by omega)]; exact hG.2.1
    have hw2 : u 34 2 = m 34 2 := by rw [hI.1 34 (by omega)]
    have vj := eq_true (vp_in_nI (show j < 12 by omega) (show 12 < 2 ^ 31 by omega))
    have cj := nI_clamp (show j < 2 ^ 31 by omega)
    have vd := eq_true (vp_in_nI (show d < 12 by omega) (show 12 < 2 ^ 31 by omega))
    have cd := nI_clamp (show d < 2 ^ 31 by omega)
    have vx := eq_true (vp_in_nI (show 12 * d + j < 144 by omega) (show 144 < 2 ^ 31 by omega))
    have cx := nI_clamp (show 12 * d + j < 2 ^ 31 by omega)
    have hc0 := GW_c hG
    have back : ∀ (u' : AM) (ch' : Bool), UPI m nd t m0 u' ch' (fun a b => a < d ∨ (a = d ∧ b < j + 1)) → AW 1 kX6_ups (UPQ m t) 171 [some (.inr 34), some (.inl (nI t)), some (.inl (b01 ch')), some (.inl (nI d)), some (.inl (nI j)), none] [] u' := by
      intro u' ch' hI'
      refine st_X6_ups_171 ?_; simp only [bX6_ups_171, exP, stP, p1, p2, pr, pobj, parr, sh0, sh1, sh2, sh3, sh4, sh5, sh6, sh7, sh8, sh9, sh10, sh11, sh12, sh13, sh14, sh15, sh16, sh17, sh18, sh19, sh20, sh21, sh22, sh23, sh24, sh25, sh26, sh27, sh28, sh29, sh30, sh31, sh32, sh33, sh34, sh35, sh36, sh37, sh38, sh39, sh40, sh41, sh42, sh43, sh44, sh45, sh46, sh47, sh48, sh49, sh50, sh51, sh52, sh53, sh54, sh55, sh56, sh57, sh58, sh59, brP, brN, swP, amask, apush, List.getElem?_cons_zero, List.getElem?_cons_succ, List.set_cons_zero, List.set_cons_succ, List.take_succ_cons, List.take_zero, List.drop_succ_cons, List.drop_zero, List.reverse_cons, List.reverse_nil, List.nil_append, List.cons_append, List.length_cons, List.length_nil, true_and, and_true, Nat.zero_le, Nat.reduceLeDiff, Nat.reduceAdd, Nat.reduceEqDiff, false_imp_iff, true_imp_iff, not_false_eq_true, not_true_eq_false, imp_self, forall_const]
      rw [nI_1]
      exact w_ups_in m nd t hG ht m0 d hd kk n (j + 1) u' ch' (by omega) hI'
    have skip : (∀ c, t.testBit d = true → t.testBit j = true → gC m d j = some c → False) → AW 1 kX6_ups (UPQ m t) 171 [some (.inr 34), some (.inl (nI t)), some (.inl (b01 ch)), some (.inl (nI d)), some (.inl (nI j)), none] [] u := by
      intro hno
      refine back u ch (hI.P (fun a b c ha hb hta htb hc q => ?_))
      by_cases r : a = d ∧ b = j
      · obtain ⟨rfl, rfl⟩ := r
        exact absurd (hno c hta htb hc) id
      · omega
    have fin : ∀ (lim : Int32) (c : Int), t.testBit d = true → t.testBit j = true → gC m d j = some c → lim.toInt = (u 57 j).toInt - c → AW 1 kX6_ups (UPQ m t) 145 [some (.inr 34), some (.inl (nI t)), some (.inl (b01 ch)), some (.inl (nI d)), some (.inl (nI j)), none] [.inl lim] u := by
      intro lim cc hta htj hcc e1
      have hcc0 := hc0 d j cc hcc
      obtain ⟨h1, h2, h3, h4, h5⟩ := hI
      have hjj := h2 j hj
      have hdd := h2 d hd
      refine st_X6_ups_145 ?_; simp only [bX6_ups_145, exP, stP, p1, p2, pr, pobj, parr, sh0, sh1, sh2, sh3, sh4, sh5, sh6, sh7, sh8, sh9, sh10, sh11, sh12, sh13, sh14, sh15, sh16, sh17, sh18, sh19, sh20, sh21, sh22, sh23, sh24, sh25, sh26, sh27, sh28, sh29, sh30, sh31, sh32, sh33, sh34, sh35, sh36, sh37, sh38, sh39, sh40, sh41, sh42, sh43, sh44, sh45, sh46, sh47, sh48, sh49, sh50, sh51, sh52, sh53, sh54, sh55, sh56, sh57, sh58, sh59, brP, brN, swP, amask, apush, List.getElem?_cons_zero, List.getElem?_cons_succ, List.set_cons_zero, List.set_cons_succ, List.take_succ_cons, List.take_zero, List.drop_succ_cons, List.drop_zero, List.reverse_cons, List.reverse_nil, List.nil_append, List.cons_append, List.length_cons, List.length_nil, true_and, and_true, Nat.zero_le, Nat.reduceLeDiff, Nat.reduceAdd, Nat.reduceEqDiff, false_imp_iff, true_imp_iff, not_false_eq_true, not_true_eq_false, imp_self, forall_const, vd, cd]
      refine ⟨fun c3 => ?_, fun c3 => ?_⟩
      · rw [Int32.lt_iff_toInt_lt] at c3
        refine st_X6_ups_161 ?_; simp only [bX6_ups_161, exP, stP, p1, p2, pr, pobj, parr, sh0, sh1, sh2, sh3, sh4, sh5, sh6, sh7, sh8, sh9, sh10, sh11, sh12, sh13, sh14, sh15, sh16, sh17, sh18, sh19, sh20, sh21, sh22, sh23, sh24, sh25, sh26, sh27, sh28, sh29, sh30, sh31, sh32, sh33, sh34, sh35, sh36, sh37, sh38, sh39, sh40, sh41, sh42, sh43, sh44, sh45, sh46, sh47, sh48, sh49, sh50, sh51, sh52, sh53, sh54, sh55, sh56, sh57, sh58, sh59, brP, brN, swP, amask, apush, List.getElem?_cons_zero, List.getElem?_cons_succ, List.set_cons_zero, List.set_cons_succ, List.take_succ_cons, List.take_zero, List.drop_succ_cons, List.drop_zero, List.reverse_cons, List.reverse_nil, List.nil_append, List.cons_append, List.length_cons, List.length_nil, true_and, and_true, Nat.zero_le, Nat.reduceLeDiff, Nat.reduceAdd, Nat.reduceEqDiff, false_imp_iff, true_imp_iff, not_false_eq_true, not_true_eq_false, imp_self, forall_const, vd, cd]
        refine back _ true ⟨fun k hk => ?_, fun b hb => ?_, fun y hy hyc b hb htb => ?_, fun q => absurd q (by decide), fun _ => ⟨d, hd, ?_⟩⟩
        · rw [aup_ne hk]; exact h1 k hk
        · rw [aup_eq]
          by_cases r : b = d
          · subst r; rw [upd_eq]; omega
          · rw [upd_ne r]; exact h2 b hb
        · rw [aup_eq]
          by_cases r : b = d
          · subst r
            rw [upd_eq]
            have := h3 y hy hyc j (by omega) htj
            have := hyc b j cc hb (by omega) htb htj hcc
            omega
          · rw [upd_ne r]; exact h3 y hy hyc b hb htb
        · rw [aup_eq, upd_eq]; omega
      · rw [Int32.lt_iff_toInt_lt] at c3
        refine st_X6_ups_158 ?_; simp only [bX6_ups_158, exP, stP, p1, p2, pr, pobj, parr, sh0, sh1, sh2, sh3, sh4, sh5, sh6, sh7, sh8, sh9, sh10, sh11, sh12, sh13, sh14, sh15, sh16, sh17, sh18, sh19, sh20, sh21, sh22, sh23, sh24, sh25, sh26, sh27, sh28, sh29, sh30, sh31, sh32, sh33, sh34, sh35, sh36, sh37, sh38, sh39, sh40, sh41, sh42, sh43, sh44, sh45, sh46, sh47, sh48, sh49, sh50, sh51, sh52, sh53, sh54, sh55, sh56, sh57, sh58, sh59, brP, brN, swP, amask, apush, List.getElem?_cons_zero, List.getElem?_cons_succ, List.set_cons_zero, List.set_cons_succ, List.take_succ_cons, List.take_zero, List.drop_succ_cons, List.drop_zero, List.reverse_cons, List.reverse_nil, List.nil_append, List.cons_append, List.length_cons, List.length_nil, true_and, and_true, Nat.zero_le, Nat.reduceLeDiff, Nat.reduceAdd, Nat.reduceEqDiff, false_imp_iff, true_imp_iff, not_false_eq_true, not_true_eq_false, imp_self, forall_const]
        refine back u ch ⟨h1, h2, h3, fun q => ⟨(h4 q).1, fun a b c' ha hb hp hat hbt hc' => ?_⟩, h5⟩
        by_cases r : a = d ∧ b = j
        · obtain ⟨rfl, rfl⟩ := r
          rw [hcc] at hc'
          cases hc'
          rw [(h4 q).1 a ha] at c3
          rw [(h4 q).1 b hb] at e1
          omega
        · exact (h4 q).2 a b c' ha hb (by omega) hat hbt hc'
    refine st_X6_ups_49 ?_; simp only [bX6_ups_49, exP, stP, p1, p2, pr, pobj, parr, sh0, sh1, sh2, sh3, sh4, sh5, sh6, sh7, sh8, sh9, sh10, sh11, sh12, sh13, sh14, sh15, sh16, sh17, sh18, sh19, sh20, sh21, sh22, sh23, sh24, sh25, sh26, sh27, sh28, sh29, sh30, sh31, sh32, sh33, sh34, sh35, sh36, sh37, sh38, sh39, sh40, sh41, sh42, sh43, sh44, sh45, sh46, sh47, sh48, sh49, sh50, sh51, sh52, sh53, sh54, sh55, sh56, sh57, sh58, sh59, brP, brN, swP, amask, apush, List.getElem?_cons_zero, List.getElem?_cons_succ, List.set_cons_zero, List.set_cons_succ, List.take_succ_cons, List.take_zero, List.drop_succ_cons, List.drop_zero, List.reverse_cons, List.reverse_nil, List.nil_append, List.cons_append, List.length_cons, List.length_nil, true_and, and_true, Nat.zero_le, Nat.reduceLeDiff, Nat.reduceAdd, Nat.reduceEqDiff, false_imp_iff, true_imp_iff, not_false_eq_true, not_true_eq_false, imp_self, forall_const, hn, eq_false (nI_ge (show j < nd by omega) (show nd < 2 ^ 31 by omega))]
    refine st_X6_ups_58 ?_; simp only [bX6_ups_58, exP, stP, p1, p2, pr, pobj, parr, sh0, sh1, sh2, sh3, sh4, sh5, sh6, sh7, sh8, sh9, sh10, sh11, sh12, sh13, sh14, sh15, sh16, sh17, sh18, sh19, sh20, sh21, sh22, sh23, sh24, sh25, sh26, sh27, sh28, sh29, sh30, sh31, sh32, sh33, sh34, sh35, sh36, sh37, sh38, sh39, sh40, sh41, sh42, sh43, sh44, sh45, sh46, sh47, sh48, sh49, sh50, sh51, sh52, sh53, sh54, sh55, sh56, sh57, sh58, sh59, brP, brN, swP, amask, apush, List.getElem?_cons_zero, List.getElem?_cons_succ, List.set_cons_zero, List.set_cons_succ, List.take_succ_cons, List.take_zero, List.drop_succ_cons, List.drop_zero, List.reverse_cons, List.reverse_nil, List.nil_append, List.cons_append, List.length_cons, List.length_nil, true_and, and_true, Nat.zero_le, Nat.reduceLeDiff, Nat.reduceAdd, Nat.reduceEqDiff, false_imp_iff, true_imp_iff, not_false_eq_true, not_true_eq_false, imp_self, forall_const, nI_inj (show d < 2147483648 by omega) (show j < 2147483648 by omega)]
    refine ⟨fun c => skip (fun cc _ _ hc => ?_), fun c => ?_⟩
    · subst c
      unfold gC at hc
      rw [if_pos rfl] at hc
      cases hc
    refine st_X6_ups_64 ?_; simp only [bX6_ups_64, exP, stP, p1, p2, pr, pobj, parr, sh0, sh1, sh2, sh3, sh4, sh5, sh6, sh7, sh8, sh9, sh10, sh11, sh12, sh13, sh14, sh15, sh16, sh17, sh18, sh19, sh20, sh21, sh22, sh23, sh24, sh25, sh26, sh27, sh28, sh29, sh30, sh31, sh32, sh33, sh34, sh35, sh36, sh37, sh38, sh39, sh40, sh41, sh42, sh43, sh44, sh45, sh46, sh47, sh48, sh49, sh50, sh51, sh52, sh53, sh54, sh55, sh56, sh57, sh58, sh59, brP, brN, swP, amask, apush, List.getElem?_cons_zero, List.getElem?_cons_succ, List.set_cons_zero, List.set_cons_succ, List.take_succ_cons, List.take_zero, List.drop_succ_cons, List.drop_zero, List.reverse_cons, List.reverse_nil, List.nil_append, List.cons_append, List.length_cons, List.length_nil, true_and, and_true, Nat.zero_le, Nat.reduceLeDiff, Nat.reduceAdd, Nat.reduceEqDiff, false_imp_iff, true_imp_iff, not_false_eq_true, not_true_eq_false, imp_self, forall_const]
    refine ⟨_, ⟨0, by decide, c_mhas _ _ d (by omega)⟩, ?_⟩; rintro _ _ ⟨rfl, rfl⟩; simp only [exP, stP, p1, p2, pr, pobj, parr, sh0, sh1, sh2, sh3, sh4, sh5, sh6, sh7, sh8, sh9, sh10, sh11, sh12, sh13, sh14, sh15, sh16, sh17, sh18, sh19, sh20, sh21, sh22, sh23, sh24, sh25, sh26, sh27, sh28, sh29, sh30, sh31, sh32, sh33, sh34, sh35, sh36, sh37, sh38, sh39, sh40, sh41, sh42, sh43, sh44, sh45, sh46, sh47, sh48, sh49, sh50, sh51, sh52, sh53, sh54, sh55, sh56, sh57, sh58, sh59, brP, brN, swP, amask, apush, List.getElem?_cons_zero, List.getElem?_cons_succ, List.set_cons_zero, List.set_cons_succ, List.take_succ_cons, List.take_zero, List.drop_succ_cons, List.drop_zero, List.reverse_cons, List.reverse_nil, List.nil_append, List.cons_append, List.length_cons, List.length_nil, true_and, and_true, Nat.zero_le, Nat.reduceLeDiff, Nat.reduceAdd, Nat.reduceEqDiff, false_imp_iff, true_imp_iff, not_false_eq_true, not_true_eq_false, imp_self, forall_const, b01_0, bt_nI (show t < 4294967296 by omega)]
    refine ⟨fun c1 => skip (fun cc q _ _ => by rw [c1] at q; cases q), fun c1 => ?_⟩
    have c1' : t.testBit d = true := by simpa using c1
    refine st_X6_ups_72 ?_; simp only [bX6_ups_72, exP, stP, p1, p2, pr, pobj, parr, sh0, sh1, sh2, sh3, sh4, sh5, sh6, sh7, sh8, sh9, sh10, sh11, sh12, sh13, sh14, sh15, sh16, sh17, sh18, sh19, sh20, sh21, sh22, sh23, sh24, sh25, sh26, sh27, sh28, sh29, sh30, sh31, sh32, sh33, sh34, sh35, sh36, sh37, sh38, sh39, sh40, sh41, sh42, sh43, sh44, sh45, sh46, sh47, sh48, sh49, sh50, sh51, sh52, sh53, sh54, sh55, sh56, sh57, sh58, sh59, brP, brN, swP, amask, apush, List.getElem?_cons_zero, List.getElem?_cons_succ, List.set_cons_zero, List.set_cons_succ, List.take_succ_cons, List.take_zero, List.drop_succ_cons, List.drop_zero, List.reverse_cons, List.reverse_nil, List.nil_append, List.cons_append, List.length_cons, List.length_nil, true_and, and_true, Nat.zero_le, Nat.reduceLeDiff, Nat.reduceAdd, Nat.reduceEqDiff, false_imp_iff, true_imp_iff, not_false_eq_true, not_true_eq_false, imp_self, forall_const]
    refine ⟨_, ⟨0, by decide, c_mhas _ _ j (by omega)⟩, ?_⟩; rintro _ _ ⟨rfl, rfl⟩; simp only [exP, stP, p1, p2, pr, pobj, parr, sh0, sh1, sh2, sh3, sh4, sh5, sh6, sh7, sh8, sh9, sh10, sh11, sh12, sh13, sh14, sh15, sh16, sh17, sh18, sh19, sh20, sh21, sh22, sh23, sh24, sh25, sh26, sh27, sh28, sh29, sh30, sh31, sh32, sh33, sh34, sh35, sh36, sh37, sh38, sh39, sh40, sh41, sh42, sh43, sh44, sh45, sh46, sh47, sh48, sh49, sh50, sh51, sh52, sh53, sh54, sh55, sh56, sh57, sh58, sh59, brP, brN, swP, amask, apush, List.getElem?_cons_zero, List.getElem?_cons_succ, List.set_cons_zero, List.set_cons_succ, List.take_succ_cons, List.take_zero, List.drop_succ_cons, List.drop_zero, List.reverse_cons, List.reverse_nil, List.nil_append, List.cons_append, List.length_cons, List.length_nil, true_and, and_true, Nat.zero_le, Nat.reduceLeDiff, Nat.reduceAdd, Nat.reduceEqDiff, false_imp_iff, true_imp_iff, not_false_eq_true, not_true_eq_false, imp_self, forall_const, b01_0, bt_nI (show t < 4294967296 by omega)]
    refine ⟨fun c2 => ?_, fun c2 => ?_⟩
    · have c2' : t.testBit j = true := by simpa using c2
      have u56 : u 56 (12 * d + j) = m 56 (12 * d + j) := by rw [hI.1 56 (by omega)]
      have u55 : u 55 (12 * d + j) = m 55 (12 * d + j) := by rw [hI.1 55 (by omega)]
      refine st_X6_ups_84 ?_; simp only [bX6_ups_84, exP, stP, p1, p2, pr, pobj, parr, sh0, sh1, sh2, sh3, sh4, sh5, sh6, sh7, sh8, sh9, sh10, sh11, sh12, sh13, sh14, sh15, sh16, sh17, sh18, sh19, sh20, sh21, sh22, sh23, sh24, sh25, sh26, sh27, sh28, sh29, sh30, sh31, sh32, sh33, sh34, sh35, sh36, sh37, sh38, sh39, sh40, sh41, sh42, sh43, sh44, sh45, sh46, sh47, sh48, sh49, sh50, sh51, sh52, sh53, sh54, sh55, sh56, sh57, sh58, sh59, brP, brN, swP, amask, apush, List.getElem?_cons_zero, List.getElem?_cons_succ, List.set_cons_zero, List.set_cons_succ, List.take_succ_cons, List.take_zero, List.drop_succ_cons, List.drop_zero, List.reverse_cons, List.reverse_nil, List.nil_append, List.cons_append, List.length_cons, List.length_nil, true_and, and_true, Nat.zero_le, Nat.reduceLeDiff, Nat.reduceAdd, Nat.reduceEqDiff, false_imp_iff, true_imp_iff, not_false_eq_true, not_true_eq_false, imp_self, forall_const, nI_12, vx, cx, true_or, or_true]
      rw [u56]
      refine ⟨fun c3 => ?_, fun c3 => ?_⟩
      · refine st_X6_ups_109 ?_; simp only [bX6_ups_109, exP, stP, p1, p2, pr, pobj, parr, sh0, sh1, sh2, sh3, sh4, sh5, sh6, sh7, sh8, sh9, sh10, sh11, sh12, sh13, sh14, sh15, sh16, sh17, sh18, sh19, sh20, sh21, sh22, sh23, sh24, sh25, sh26, sh27, sh28, sh29, sh30, sh31, sh32, sh33, sh34, sh35, sh36, sh37, sh38, sh39, sh40, sh41, sh42, sh43, sh44, sh45, sh46, sh47, sh48, sh49, sh50, sh51, sh52, sh53, sh54, sh55, sh56, sh57, sh58, sh59, brP, brN, swP, amask, apush, List.getElem?_cons_zero, List.getElem?_cons_succ, List.set_cons_zero, List.set_cons_succ, List.take_succ_cons, List.take_zero, List.drop_succ_cons, List.drop_zero, List.reverse_cons, List.reverse_nil, List.nil_append, List.cons_append, List.length_cons, List.length_nil, true_and, and_true, Nat.zero_le, Nat.reduceLeDiff, Nat.reduceAdd, Nat.reduceEqDiff, false_imp_iff, true_imp_iff, not_false_eq_true, not_true_eq_false, imp_self, forall_const, nI_12, vx, cx, true_or, or_true]
        rw [u55]
        refine ⟨fun c4 => ?_, fun c4 => ?_⟩
        · refine st_X6_ups_139 ?_; simp only [bX6_ups_139, exP, stP, p1, p2, pr, pobj, parr, sh0, sh1, sh2, sh3, sh4, sh5, sh6, sh7, sh8, sh9, sh10, sh11, sh12, sh13, sh14, sh15, sh16, sh17, sh18, sh19, sh20, sh21, sh22, sh23, sh24, sh25, sh26, sh27, sh28, sh29, sh30, sh31, sh32, sh33, sh34, sh35, sh36, sh37, sh38, sh39, sh40, sh41, sh42, sh43, sh44, sh45, sh46, sh47, sh48, sh49, sh50, sh51, sh52, sh53, sh54, sh55, sh56, sh57, sh58, sh59, brP, brN, swP, amask, apush, List.getElem?_cons_zero, List.getElem?_cons_succ, List.set_cons_zero, List.set_cons_succ, List.take_succ_cons, List.take_zero, List.drop_succ_cons, List.drop_zero, List.reverse_cons, List.reverse_nil, List.nil_append, List.cons_append, List.length_cons, List.length_nil, true_and, and_true, Nat.zero_le, Nat.reduceLeDiff, Nat.reduceAdd, Nat.reduceEqDiff, false_imp_iff, true_imp_iff, not_false_eq_true, not_true_eq_false, imp_self, forall_const, vd, cd]
          refine st_X6_ups_145 ?_; simp only [bX6_ups_145, exP, stP, p1, p2, pr, pobj, parr, sh0, sh1, sh2, sh3, sh4, sh5, sh6, sh7, sh8, sh9, sh10, sh11, sh12, sh13, sh14, sh15, sh16, sh17, sh18, sh19, sh20, sh21, sh22, sh23, sh24, sh25, sh26, sh27, sh28, sh29, sh30, sh31, sh32, sh33, sh34, sh35, sh36, sh37, sh38, sh39, sh40, sh41, sh42, sh43, sh44, sh45, sh46, sh47, sh48, sh49, sh50, sh51, sh52, sh53, sh54, sh55, sh56, sh57, sh58, sh59, brP, brN, swP, amask, apush, List.getElem?_cons_zero, List.getElem?_cons_succ, List.set_cons_zero, List.set_cons_succ, List.take_succ_cons, List.take_zero, List.drop_succ_cons, List.drop_zero, List.reverse_cons, List.reverse_nil, List.nil_append, List.cons_append, List.length_cons, List.length_nil, true_and, and_true, Nat.zero_le, Nat.reduceLeDiff, Nat.reduceAdd, Nat.reduceEqDiff, false_imp_iff, true_imp_iff, not_false_eq_true, not_true_eq_false, imp_self, forall_const, vd, cd]
          refine ⟨fun c5 => absurd c5 (by rw [Int32.lt_iff_toInt_lt]; omega), fun c5 => ?_⟩
          refine st_X6_ups_158 ?_; simp only [bX6_ups_158, exP, stP, p1, p2, pr, pobj, parr, sh0, sh1, sh2, sh3, sh4, sh5, sh6, sh7, sh8, sh9, sh10, sh11, sh12, sh13, sh14, sh15, sh16, sh17, sh18, sh19, sh20, sh21, sh22, sh23, sh24, sh25, sh26, sh27, sh28, sh29, sh30, sh31, sh32, sh33, sh34, sh35, sh36, sh37, sh38, sh39, sh40, sh41, sh42, sh43, sh44, sh45, sh46, sh47, sh48, sh49, sh50, sh51, sh52, sh53, sh54, sh55, sh56, sh57, sh58, sh59, brP, brN, swP, amask, apush, List.getElem?_cons_zero, List.getElem?_cons_succ, List.set_cons_zero, List.set_cons_succ, List.take_succ_cons, List.take_zero, List.drop_succ_cons, List.drop_zero, List.reverse_cons, List.reverse_nil, List.nil_append, List.cons_append, List.length_cons, List.length_nil, true_and, and_true, Nat.zero_le, Nat.reduceLeDiff, Nat.reduceAdd, Nat.reduceEqDiff, false_imp_iff, true_imp_iff, not_false_eq_true, not_true_eq_false, imp_self, forall_const]
          refine skip (fun cc _ _ hc => ?_)
          unfold gC at hc
          rw [if_neg c, if_pos c3, if_pos c4] at hc
          cases hc
        · refine st_X6_ups_124 ?_; simp only [bX6_ups_124, exP, stP, p1, p2, pr, pobj, parr, sh0, sh1, sh2, sh3, sh4, sh5, sh6, sh7, sh8, sh9, sh10, sh11, sh12, sh13, sh14, sh15, sh16, sh17, sh18, sh19, sh20, sh21, sh22, sh23, sh24, sh25, sh26, sh27, sh28, sh29, sh30, sh31, sh32, sh33, sh34, sh35, sh36, sh37, sh38, sh39, sh40, sh41, sh42, sh43, sh44, sh45, sh46, sh47, sh48, sh49, sh50, sh51, sh52, sh53, sh54, sh55, sh56, sh57, sh58, sh59, brP, brN, swP, amask, apush, List.getElem?_cons_zero, List.getElem?_cons_succ, List.set_cons_zero, List.set_cons_succ, List.take_succ_cons, List.take_zero, List.drop_succ_cons, List.drop_zero, List.reverse_cons, List.reverse_nil, List.nil_append, List.cons_append, List.length_cons, List.length_nil, true_and, and_true, Nat.zero_le, Nat.reduceLeDiff, Nat.reduceAdd, Nat.reduceEqDiff, false_imp_iff, true_imp_iff, not_false_eq_true, not_true_eq_false, imp_self, forall_const, vj, cj]
          have hjj := hI.2.1 j hj
          have hF := hG.2.2.1 j hj
          have hw := hG.2.2.2.1
          refine fin _ (m 34 2).toInt c1' c2' (by unfold gC; rw [if_neg c, if_pos c3, if_neg c4]) ?_
          rw [hw2, i32_sub (by omega) (by omega)]
      · refine st_X6_ups_99 ?_; simp only [bX6_ups_99, exP, stP, p1, p2, pr, pobj, parr, sh0, sh1, sh2, sh3, sh4, sh5, sh6, sh7, sh8, sh9, sh10, sh11, sh12, sh13, sh14, sh15, sh16, sh17, sh18, sh19, sh20, sh21, sh22, sh23, sh24, sh25, sh26, sh27, sh28, sh29, sh30, sh31, sh32, sh33, sh34, sh35, sh36, sh37, sh38, sh39, sh40, sh41, sh42, sh43, sh44, sh45, sh46, sh47, sh48, sh49, sh50, sh51, sh52, sh53, sh54, sh55, sh56, sh57, sh58, sh59, brP, brN, swP, amask, apush, List.getElem?_cons_zero, List.getElem?_cons_succ, List.set_cons_zero, List.set_cons_succ, List.take_succ_cons, List.take_zero, List.drop_succ_cons, List.drop_zero, List.reverse_cons, List.reverse_nil, List.nil_append, List.cons_append, List.length_cons, List.length_nil, true_and, and_true, Nat.zero_le, Nat.reduceLeDiff, Nat.reduceAdd, Nat.reduceEqDiff, false_imp_iff, true_imp_iff, not_false_eq_true, not_true_eq_false, imp_self, forall_const, vj, cj]
        exact fin _ 0 c1' c2' (by unfold gC; rw [if_neg c, if_neg c3]) (by omega)
    · refine st_X6_ups_81 ?_; simp only [bX6_ups_81, exP, stP, p1, p2, pr, pobj, parr, sh0, sh1, sh2, sh3, sh4, sh5, sh6, sh7, sh8, sh9, sh10, sh11, sh12, sh13, sh14, sh15, sh16, sh17, sh18, sh19, sh20, sh21, sh22, sh23, sh24, sh25, sh26, sh27, sh28, sh29, sh30, sh31, sh32, sh33, sh34, sh35, sh36, sh37, sh38, sh39, sh40, sh41, sh42, sh43, sh44, sh45, sh46, sh47, sh48, sh49, sh50, sh51, sh52, sh53, sh54, sh55, sh56, sh57, sh58, sh59, brP, brN, swP, amask, apush, List.getElem?_cons_zero, List.getElem?_cons_succ, List.set_cons_zero, List.set_cons_succ, List.take_succ_cons, List.take_zero, List.drop_succ_cons, List.drop_zero, List.reverse_cons, List.reverse_nil, List.nil_append, List.cons_append, List.length_cons, List.length_nil, true_and, and_true, Nat.zero_le, Nat.reduceLeDiff, Nat.reduceAdd, Nat.reduceEqDiff, false_imp_iff, true_imp_iff, not_false_eq_true, not_true_eq_false, imp_self, forall_const]
      exact skip (fun cc _ q _ => by rw [c2] at q; cases q)
theorem w_ups_out (m : AM) (nd t : Nat) (hG : GW m nd) (ht : t < 4096) (m0 : AM)
    (kk : ∀ u ch, UPI m nd t m0 u ch (fun _ _ => True) → AW 1 kX6_ups (UPQ m t) 183 [some (.inr 34), some (.inl (nI t)), some (.inl (b01 ch)), none, none, none] [] u) :
    ∀ (n d : Nat) (u : AM) (ch : Bool), d + n = nd → UPI m nd t m0 u ch (fun a _ => a < d) → AW 1 kX6_ups (UPQ m t) 38 [some (.inr 34), some (.inl (nI t)), some (.inl (b01 ch)), some (.inl (nI d)), none, none] [] u
  | 0, d, u, ch, h, hI => by
    obtain rfl : d = nd := by omega
    have hnd := hG.1
    have hn : u 34 6 = nI d := by rw [hI.1 34 (by omega)]; exact hG.2.1
    refine st_X6_ups_38 ?_; simp only [bX6_ups_38, exP, stP, p1, p2, pr, pobj, parr, sh0, sh1, sh2, sh3, sh4, sh5, sh6, sh7, sh8, sh9, sh10, sh11, sh12, sh13, sh14, sh15, sh16, sh17, sh18, sh19, sh20, sh21, sh22, sh23, sh24, sh25, sh26, sh27, sh28, sh29, sh30, sh31, sh32, sh33, sh34, sh35, sh36, sh37, sh38, sh39, sh40, sh41, sh42, sh43, sh44, sh45, sh46, sh47, sh48, sh49, sh50, sh51, sh52, sh53, sh54, sh55, sh56, sh57, sh58, sh59, brP, brN, swP, amask, apush, List.getElem?_cons_zero, List.getElem?_cons_succ, List.set_cons_zero, List.set_cons_succ, List.take_succ_cons, List.take_zero, List.drop_succ_cons, List.drop_zero, List.reverse_cons, List.reverse_nil, List.nil_append, List.cons_append, List.length_cons, List.length_nil, true_and, and_true, Nat.zero_le, Nat.reduceLeDiff, Nat.reduceAdd, Nat.reduceEqDiff, false_imp_iff, true_imp_iff, not_false_eq_true, not_true_eq_false, imp_self, forall_const, hn, eq_true (nI_le (Nat.le_refl d) (show d < 2 ^ 31 by omega))]
    exact kk u ch (hI.P (fun a b c ha hb _ _ _ q => ha))
  | n + 1, d, u, ch, h, hI => by
    have hnd := hG.1
    have hn : u 34 6 = nI nd := by rw [hI.1 34 (by omega)]; exact hG.2.1
    refine st_X6_ups_38 ?_; simp only [bX6_ups_38, exP, stP, p1, p2, pr, pobj, parr, sh0, sh1, sh2, sh3, sh4, sh5, sh6, sh7, sh8, sh9, sh10, sh11, sh12, sh13, sh14, sh15, sh16, sh17, sh18, sh19, sh20, sh21, sh22, sh23, sh24, sh25, sh26, sh27, sh28, sh29, sh30, sh31, sh32, sh33, sh34, sh35, sh36, sh37, sh38, sh39, sh40, sh41, sh42, sh43, sh44, sh45, sh46, sh47, sh48, sh49, sh50, sh51, sh52, sh53, sh54, sh55, sh56, sh57, sh58, sh59, brP, brN, swP, amask, apush, List.getElem?_cons_zero, List.getElem?_cons_succ, List.set_cons_zero, List.set_cons_succ, List.take_succ_cons, List.take_zero, List.drop_succ_cons, List.drop_zero, List.reverse_cons, List.reverse_nil, List.nil_append, List.cons_append, List.length_cons, List.length_nil, true_and, and_true, Nat.zero_le, Nat.reduceLeDiff, Nat.reduceAdd, Nat.reduceEqDiff, false_imp_iff, true_imp_iff, not_false_eq_true, not_true_eq_false, imp_self, forall_const, hn, eq_false (nI_ge (show d < nd by omega) (show nd < 2 ^ 31 by omega))]
    refine st_X6_ups_46 ?_; simp only [bX6_ups_46, exP, stP, p1, p2, pr, pobj, parr, sh0, sh1, sh2, sh3, sh4, sh5, sh6, sh7, sh8, sh9, sh10, sh11, sh12, sh13, sh14, sh15, sh16, sh17, sh18, sh19, sh20, sh21, sh22, sh23, sh24, sh25, sh26, sh27, sh28, sh29, sh30, sh31, sh32, sh33, sh34, sh35, sh36, sh37, sh38, sh39, sh40, sh41, sh42, sh43, sh44, sh45, sh46, sh47, sh48, sh49, sh50, sh51, sh52, sh53, sh54, sh55, sh56, sh57, sh58, sh59, brP, brN, swP, amask, apush, List.getElem?_cons_zero, List.getElem?_cons_succ, List.set_cons_zero, List.set_cons_succ, List.take_succ_cons, List.take_zero, List.drop_succ_cons, List.drop_zero, List.reverse_cons, List.reverse_nil, List.nil_append, List.cons_append, List.length_cons, List.length_nil, true_and, and_true, Nat.zero_le, Nat.reduceLeDiff, Nat.reduceAdd, Nat.reduceEqDiff, false_imp_iff, true_imp_iff, not_false_eq_true, not_true_eq_false, imp_self, forall_const]
    refine w_ups_in m nd t hG ht m0 d (by omega) (fun u ch hI => ?_) nd 0 u ch (by omega) (hI.P (fun a b c ha hb _ _ _ q => by omega))
    refine st_X6_ups_177 ?_; simp only [bX6_ups_177, exP, stP, p1, p2, pr, pobj, parr, sh0, sh1, sh2, sh3, sh4, sh5, sh6, sh7, sh8, sh9, sh10, sh11, sh12, sh13, sh14, sh15, sh16, sh17, sh18, sh19, sh20, sh21, sh22, sh23, sh24, sh25, sh26, sh27, sh28, sh29, sh30, sh31, sh32, sh33, sh34, sh35, sh36, sh37, sh38, sh39, sh40, sh41, sh42, sh43, sh44, sh45, sh46, sh47, sh48, sh49, sh50, sh51, sh52, sh53, sh54, sh55, sh56, sh57, sh58, sh59, brP, brN, swP, amask, apush, List.getElem?_cons_zero, List.getElem?_cons_succ, List.set_cons_zero, List.set_cons_succ, List.take_succ_cons, List.take_zero, List.drop_succ_cons, List.drop_zero, List.reverse_cons, List.reverse_nil, List.nil_append, List.cons_append, List.length_cons, List.length_nil, true_and, and_true, Nat.zero_le, Nat.reduceLeDiff, Nat.reduceAdd, Nat.reduceEqDiff, false_imp_iff, true_imp_iff, not_false_eq_true, not_true_eq_false, imp_self, forall_const]
    rw [nI_1]
    exact w_ups_out m nd t hG ht m0 kk n (d + 1) u ch (by omega) hI
theorem c_ups (m : AM) (nd t : Nat) (hG : GW m nd) (ht : t < 4096) (hin : inN t nd) : AC 1 kX6_ups [.inr 34, .inl (nI t)] m (UPQ m t) := by
  have hnd := hG.1
  have hc0 := GW_c hG
  refine AC_of own_X6_ups (ls := [some (.inr 34), some (.inl (nI t)), none, none, none, none]) (z := 4) (Nat.le_of_ble_eq_true rfl) rfl ?_
  have while_ : ∀ (N : Nat) (u : AM), (∀ k, k ≠ 57 → u k = m k) → (∀ b, b < nd → (u 57 b).toInt ≤ 3000 ∧ gF m b ≤ (u 57 b).toInt) → (∀ y : Nat → Int, (∀ b, b < 12 → t.testBit b = true → gF m b ≤ y b) → clo (gC m) t y → ∀ b, b < 12 → t.testBit b = true → (u 57 b).toInt ≤ y b) → sumZ (fun b => 3000 - (u 57 b).toInt) nd < N → AW 1 kX6_ups (UPQ m t) 30 [some (.inr 34), some (.inl (nI t)), some (.inl 1), none, none, none] [] u := by
    intro N
    induction N with
    | zero =>
      intro u h1 h2 h3 h4
      have := sumZ_nn (f := fun b => 3000 - (u 57 b).toInt) nd (fun i hi => by have := h2 i hi; omega)
      omega
    | succ N ih =>
      intro u h1 h2 h3 h4
      refine st_X6_ups_30 ?_; simp only [bX6_ups_30, exP, stP, p1, p2, pr, pobj, parr, sh0, sh1, sh2, sh3, sh4, sh5, sh6, sh7, sh8, sh9, sh10, sh11, sh12, sh13, sh14, sh15, sh16, sh17, sh18, sh19, sh20, sh21, sh22, sh23, sh24, sh25, sh26, sh27, sh28, sh29, sh30, sh31, sh32, sh33, sh34, sh35, sh36, sh37, sh38, sh39, sh40, sh41, sh42, sh43, sh44, sh45, sh46, sh47, sh48, sh49, sh50, sh51, sh52, sh53, sh54, sh55, sh56, sh57, sh58, sh59, brP, brN, swP, amask, apush, List.getElem?_cons_zero, List.getElem?_cons_succ, List.set_cons_zero, List.set_cons_succ, List.take_succ_cons, List.take_zero, List.drop_succ_cons, List.drop_zero, List.reverse_cons, List.reverse_nil, List.nil_append, List.cons_append, List.length_cons, List.length_nil, true_and, and_true, Nat.zero_le, Nat.reduceLeDiff, Nat.reduceAdd, Nat.reduceEqDiff, false_imp_iff, true_imp_iff, not_false_eq_true, not_true_eq_false, imp_self, forall_const]
      refine ⟨fun c => absurd c (by decide), fun _ => ?_⟩
      refine st_X6_ups_34 ?_; simp only [bX6_ups_34, exP, stP, p1, p2, pr, pobj, parr, sh0, sh1, sh2, sh3, sh4, sh5, sh6, sh7, sh8, sh9, sh10, sh11, sh12, sh13, sh14, sh15, sh16, sh17, sh18, sh19, sh20, sh21, sh22, sh23, sh24, sh25, sh26, sh27, sh28, sh29, sh30, sh31, sh32, sh33, sh34, sh35, sh36, sh37, sh38, sh39, sh40, sh41, sh42, sh43, sh44, sh45, sh46, sh47, sh48, sh49, sh50, sh51, sh52, sh53, sh54, sh55, sh56, sh57, sh58, sh59, brP, brN, swP, amask, apush, List.getElem?_cons_zero, List.getElem?_cons_succ, List.set_cons_zero, List.set_cons_succ, List.take_succ_cons, List.take_zero, List.drop_succ_cons, List.drop_zero, List.reverse_cons, List.reverse_nil, List.nil_append, List.cons_append, List.length_cons, List.length_nil, true_and, and_true, Nat.zero_le, Nat.reduceLeDiff, Nat.reduceAdd, Nat.reduceEqDiff, false_imp_iff, true_imp_iff, not_false_eq_true, not_true_eq_false, imp_self, forall_const]
      refine w_ups_out m nd t hG ht u (fun u' ch hI => ?_) nd 0 u false (by omega) ⟨h1, fun b hb => ⟨Int.le_refl _, h2 b hb⟩, h3, fun _ => ⟨fun _ _ => rfl, fun a b c _ _ q => by omega⟩, fun q => absurd q (by decide)⟩
      obtain ⟨i1, i2, i3, i4, i5⟩ := hI
      refine st_X6_ups_183 ?_; simp only [bX6_ups_183, exP, stP, p1, p2, pr, pobj, parr, sh0, sh1, sh2, sh3, sh4, sh5, sh6, sh7, sh8, sh9, sh10, sh11, sh12, sh13, sh14, sh15, sh16, sh17, sh18, sh19, sh20, sh21, sh22, sh23, sh24, sh25, sh26, sh27, sh28, sh29, sh30, sh31, sh32, sh33, sh34, sh35, sh36, sh37, sh38, sh39, sh40, sh41, sh42, sh43, sh44, sh45, sh46, sh47, sh48, sh49, sh50, sh51, sh52, sh53, sh54, sh55, sh56, sh57, sh58, sh59, brP, brN, swP, amask, apush, List.getElem?_cons_zero, List.getElem?_cons_succ, List.set_cons_zero, List.set_cons_succ, List.take_succ_cons, List.take_zero, List.drop_succ_cons, List.drop_zero, List.reverse_cons, List.reverse_nil, List.nil_append, List.cons_append, List.length_cons, List.length_nil, true_and, and_true, Nat.zero_le, Nat.reduceLeDiff, Nat.reduceAdd, Nat.reduceEqDiff, false_imp_iff, true_imp_iff, not_false_eq_true, not_true_eq_false, imp_self, forall_const]
      cases ch with
      | true =>
        obtain ⟨b, hb, hlt⟩ := i5 rfl
        refine ih u' i1 (fun b hb => (i2 b hb).2) i3 ?_
        have := sumZ_lt (f := fun b => 3000 - (u' 57 b).toInt) (g := fun b => 3000 - (u 57 b).toInt) (j := b) nd (fun i hi => by have := i2 i hi; omega) hb (by omega)
        omega
      | false =>
        refine st_X6_ups_30 ?_; simp only [bX6_ups_30, exP, stP, p1, p2, pr, pobj, parr, sh0, sh1, sh2, sh3, sh4, sh5, sh6, sh7, sh8, sh9, sh10, sh11, sh12, sh13, sh14, sh15, sh16, sh17, sh18, sh19, sh20, sh21, sh22, sh23, sh24, sh25, sh26, sh27, sh28, sh29, sh30, sh31, sh32, sh33, sh34, sh35, sh36, sh37, sh38, sh39, sh40, sh41, sh42, sh43, sh44, sh45, sh46, sh47, sh48, sh49, sh50, sh51, sh52, sh53, sh54, sh55, sh56, sh57, sh58, sh59, brP, brN, swP, amask, apush, List.getElem?_cons_zero, List.getElem?_cons_succ, List.set_cons_zero, List.set_cons_succ, List.take_succ_cons, List.take_zero, List.drop_succ_cons, List.drop_zero, List.reverse_cons, List.reverse_nil, List.nil_append, List.cons_append, List.length_cons, List.length_nil, true_and, and_true, Nat.zero_le, Nat.reduceLeDiff, Nat.reduceAdd, Nat.reduceEqDiff, false_imp_iff, true_imp_iff, not_false_eq_true, not_true_eq_false, imp_self, forall_const]
        refine ⟨fun _ => ?_, fun c => absurd rfl c⟩
        refine st_X6_ups_186 ?_; simp only [bX6_ups_186, exP, stP, p1, p2, pr, pobj, parr, sh0, sh1, sh2, sh3, sh4, sh5, sh6, sh7, sh8, sh9, sh10, sh11, sh12, sh13, sh14, sh15, sh16, sh17, sh18, sh19, sh20, sh21, sh22, sh23, sh24, sh25, sh26, sh27, sh28, sh29, sh30, sh31, sh32, sh33, sh34, sh35, sh36, sh37, sh38, sh39, sh40, sh41, sh42, sh43, sh44, sh45, sh46, sh47, sh48, sh49, sh50, sh51, sh52, sh53, sh54, sh55, sh56, sh57, sh58, sh59, brP, brN, swP, amask, apush, List.getElem?_cons_zero, List.getElem?_cons_succ, List.set_cons_zero, List.set_cons_succ, List.take_succ_cons, List.take_zero, List.drop_succ_cons, List.drop_zero, List.reverse_cons, List.reverse_nil, List.nil_append, List.cons_append, List.length_cons, List.length_nil, true_and, and_true, Nat.zero_le, Nat.reduceLeDiff, Nat.reduceAdd, Nat.reduceEqDiff, false_imp_iff, true_imp_iff, not_false_eq_true, not_true_eq_false, imp_self, forall_const]
        obtain ⟨e1, e2⟩ := i4 rfl
        refine ⟨rfl, i1, fun b hb htb => (i2 b (hin b htb)).2.2, fun a b c ha hb hta htb hc => ?_, i3⟩
        have := e2 a b c (hin a hta) (hin b htb) trivial hta htb hc
        show (u' 57 b).toInt ≤ (u' 57 a).toInt + c
        rw [e1 a (hin a hta), e1 b (hin b htb)]
        omega
  have loop1 : ∀ (n j : Nat) (u : AM), j + n = nd → (∀ k, k ≠ 57 → u k = m k) → (∀ b, b < j → u 57 b = m 53 b) → AW 1 kX6_ups (UPQ m t) 2 [some (.inr 34), some (.inl (nI t)), some (.inl (nI j)), none, none, none] [] u := by
    intro n
    induction n with
    | zero =>
      intro j u hj h1 h2
      obtain rfl : j = nd := by omega
      have hn : u 34 6 = nI j := by rw [h1 34 (by omega)]; exact hG.2.1
      refine st_X6_ups_2 ?_; simp only [bX6_ups_2, exP, stP, p1, p2, pr, pobj, parr, sh0, sh1, sh2, sh3, sh4, sh5, sh6, sh7, sh8, sh9, sh10, sh11, sh12, sh13, sh14, sh15, sh16, sh17, sh18, sh19, sh20, sh21, sh22, sh23, sh24, sh25, sh26, sh27, sh28, sh29, sh30, sh31, sh32, sh33, sh34, sh35, sh36, sh37, sh38, sh39, sh40, sh41, sh42, sh43, sh44, sh45, sh46, sh47, sh48, sh49, sh50, sh51, sh52, sh53, sh54, sh55, sh56, sh57, sh58, sh59, brP, brN, swP, amask, apush, List.getElem?_cons_zero, List.getElem?_cons_succ, List.set_cons_zero, List.set_cons_succ, List.take_succ_cons, List.take_zero, List.drop_succ_cons, List.drop_zero, List.reverse_cons, List.reverse_nil, List.nil_append, List.cons_append, List.length_cons, List.length_nil, true_and, and_true, Nat.zero_le, Nat.reduceLeDiff, Nat.reduceAdd, Nat.reduceEqDiff, false_imp_iff, true_imp_iff, not_false_eq_true, not_true_eq_false, imp_self, forall_const, hn, eq_true (nI_le (Nat.le_refl j) (show j < 2 ^ 31 by omega))]
      refine st_X6_ups_28 ?_; simp only [bX6_ups_28, exP, stP, p1, p2, pr, pobj, parr, sh0, sh1, sh2, sh3, sh4, sh5, sh6, sh7, sh8, sh9, sh10, sh11, sh12, sh13, sh14, sh15, sh16, sh17, sh18, sh19, sh20, sh21, sh22, sh23, sh24, sh25, sh26, sh27, sh28, sh29, sh30, sh31, sh32, sh33, sh34, sh35, sh36, sh37, sh38, sh39, sh40, sh41, sh42, sh43, sh44, sh45, sh46, sh47, sh48, sh49, sh50, sh51, sh52, sh53, sh54, sh55, sh56, sh57, sh58, sh59, brP, brN, swP, amask, apush, List.getElem?_cons_zero, List.getElem?_cons_succ, List.set_cons_zero, List.set_cons_succ, List.take_succ_cons, List.take_zero, List.drop_succ_cons, List.drop_zero, List.reverse_cons, List.reverse_nil, List.nil_append, List.cons_append, List.length_cons, List.length_nil, true_and, and_true, Nat.zero_le, Nat.reduceLeDiff, Nat.reduceAdd, Nat.reduceEqDiff, false_imp_iff, true_imp_iff, not_false_eq_true, not_true_eq_false, imp_self, forall_const]
      have e : ∀ b, b < j → (u 57 b).toInt = gF m b := fun b hb => by rw [h2 b hb]; rfl
      refine while_ ((sumZ (fun b => 3000 - (u 57 b).toInt) j).toNat + 1) u h1 (fun b hb => ?_) (fun y hy hyc b hb htb => ?_) (by omega)
      · have := hG.2.2.1 b hb
        rw [e b hb]; omega
      · rw [e b (hin b htb)]; exact hy b hb htb
    | succ n ih =>
      intro j u hj h1 h2
      have hn : u 34 6 = nI nd := by rw [h1 34 (by omega)]; exact hG.2.1
      have vj := eq_true (vp_in_nI (show j < 12 by omega) (show 12 < 2 ^ 31 by omega))
      have cj := nI_clamp (show j < 2 ^ 31 by omega)
      refine st_X6_ups_2 ?_; simp only [bX6_ups_2, exP, stP, p1, p2, pr, pobj, parr, sh0, sh1, sh2, sh3, sh4, sh5, sh6, sh7, sh8, sh9, sh10, sh11, sh12, sh13, sh14, sh15, sh16, sh17, sh18, sh19, sh20, sh21, sh22, sh23, sh24, sh25, sh26, sh27, sh28, sh29, sh30, sh31, sh32, sh33, sh34, sh35, sh36, sh37, sh38, sh39, sh40, sh41, sh42, sh43, sh44, sh45, sh46, sh47, sh48, sh49, sh50, sh51, sh52, sh53, sh54, sh55, sh56, sh57, sh58, sh59, brP, brN, swP, amask, apush, List.getElem?_cons_zero, List.getElem?_cons_succ, List.set_cons_zero, List.set_cons_succ, List.take_succ_cons, List.take_zero, List.drop_succ_cons, List.drop_zero, List.reverse_cons, List.reverse_nil, List.nil_append, List.cons_append, List.length_cons, List.length_nil, true_and, and_true, Nat.zero_le, Nat.reduceLeDiff, Nat.reduceAdd, Nat.reduceEqDiff, false_imp_iff, true_imp_iff, not_false_eq_true, not_true_eq_false, imp_self, forall_const, hn, eq_false (nI_ge (show j < nd by omega) (show nd < 2 ^ 31 by omega))]
      refine st_X6_ups_10 ?_; simp only [bX6_ups_10, exP, stP, p1, p2, pr, pobj, parr, sh0, sh1, sh2, sh3, sh4, sh5, sh6, sh7, sh8, sh9, sh10, sh11, sh12, sh13, sh14, sh15, sh16, sh17, sh18, sh19, sh20, sh21, sh22, sh23, sh24, sh25, sh26, sh27, sh28, sh29, sh30, sh31, sh32, sh33, sh34, sh35, sh36, sh37, sh38, sh39, sh40, sh41, sh42, sh43, sh44, sh45, sh46, sh47, sh48, sh49, sh50, sh51, sh52, sh53, sh54, sh55, sh56, sh57, sh58, sh59, brP, brN, swP, amask, apush, List.getElem?_cons_zero, List.getElem?_cons_succ, List.set_cons_zero, List.set_cons_succ, List.take_succ_cons, List.take_zero, List.drop_succ_cons, List.drop_zero, List.reverse_cons, List.reverse_nil, List.nil_append, List.cons_append, List.length_cons, List.length_nil, true_and, and_true, Nat.zero_le, Nat.reduceLeDiff, Nat.reduceAdd, Nat.reduceEqDiff, false_imp_iff, true_imp_iff, not_false_eq_true, not_true_eq_false, imp_self, forall_const, vj, cj]
      rw [nI_1]
      refine ih (j + 1) _ (by omega) (fun k hk => by rw [aup_ne hk]; exact h1 k hk) (fun b hb => ?_)
      rw [aup_eq]
      by_cases q : b = j
      · subst q; rw [upd_eq, h1 53 (by omega)]
      · rw [upd_ne q]; exact h2 b (by omega)
  refine st_X6_ups_0 ?_; simp only [bX6_ups_0, exP, stP, p1, p2, pr, pobj, parr, sh0, sh1, sh2, sh3, sh4, sh5, sh6, sh7, sh8, sh9, sh10, sh11, sh12, sh13, sh14, sh15, sh16, sh17, sh18, sh19, sh20, sh21, sh22, sh23, sh24, sh25, sh26, sh27, sh28, sh29, sh30, sh31, sh32, sh33, sh34, sh35, sh36, sh37, sh38, sh39, sh40, sh41, sh42, sh43, sh44, sh45, sh46, sh47, sh48, sh49, sh50, sh51, sh52, sh53, sh54, sh55, sh56, sh57, sh58, sh59, brP, brN, swP, amask, apush, List.getElem?_cons_zero, List.getElem?_cons_succ, List.set_cons_zero, List.set_cons_succ, List.take_succ_cons, List.take_zero, List.drop_succ_cons, List.drop_zero, List.reverse_cons, List.reverse_nil, List.nil_append, List.cons_append, List.length_cons, List.length_nil, true_and, and_true, Nat.zero_le, Nat.reduceLeDiff, Nat.reduceAdd, Nat.reduceEqDiff, false_imp_iff, true_imp_iff, not_false_eq_true, not_true_eq_false, imp_self, forall_const]
  exact loop1 nd 0 m (by omega) (fun _ _ => rfl) (fun b hb => by omega)
end
section
/-- what a pass of downs has done so far -/
def DNI (m : AM) (nd t : Nat) (m0 u : AM) (ch : Bool) (P : Nat → Nat → Prop) : Prop :=
  (∀ k, k ≠ 58 → u k = m k) ∧ (∀ b, b < nd → (u 58 b).toInt ≤ (m0 58 b).toInt ∧ 0 ≤ (u 58 b).toInt ∧ (u 58 b).toInt ≤ gL m b) ∧
  (∀ y : Nat → Int, (∀ b, b < 12 → t.testBit b = true → y b ≤ gL m b) → clo (gC m) t y → ∀ b, b < 12 → t.testBit b = true → y b ≤ (u 58 b).toInt) ∧
  (ch = false → (∀ b, b < nd → u 58 b = m0 58 b) ∧ ∀ a b c, a < nd → b < nd → P a b → t.testBit a = true → t.testBit b = true → gC m b a = some c → (m0 58 a).toInt ≤ (m0 58 b).toInt + c) ∧
  (ch = true → ∃ b, b < nd ∧ (u 58 b).toInt < (m0 58 b).toInt)
theorem DNI.P {m : AM} {nd t : Nat} {m0 u : AM} {ch : Bool} {P P' : Nat → Nat → Prop} (h : DNI m nd t m0 u ch P) (hp : ∀ a b c, a < nd → b < nd → t.testBit a = true → t.testBit b = true → gC m b a = some c → P' a b → P a b) : DNI m nd t m0 u ch P' :=
  ⟨h.1, h.2.1, h.2.2.1, fun q => ⟨(h.2.2.2.1 q).1, fun a b c ha hb hP hta htb hc => (h.2.2.2.1 q).2 a b c ha hb (hp a b c ha hb hta htb hc hP) hta htb hc⟩, h.2.2.2.2⟩
def DNQ (m : AM) (t : Nat) : APost := fun z u => z = none ∧ (∀ k, k ≠ 58 → u k = m k) ∧ isG (gL m) (gC m) t (fun b => (u 58 b).toInt)
theorem w_downs_in (m : AM) (nd t : Nat) (hG : GW m nd) (ht : t < 4096) (m0 : AM) (d : Nat) (hd : d < nd)
    (kk : ∀ u ch, DNI m nd t m0 u ch (fun a _ => a < d + 1) → AW 1 kX6_downs (DNQ m t) 177 [some (.inr 34), some (.inl (nI t)), some (.inl (b01 ch)), some (.inl (nI d)), none, none] [] u) :
    ∀ (n j : Nat) (u : AM) (ch : Bool), j + n = nd → DNI m nd t m0 u ch (fun a b => a < d ∨ (a = d ∧ b < j)) → AW 1 kX6_downs (DNQ m t) 49 [some (.inr 34), some (.inl (nI t)), some (.inl (b01 ch)), some (.inl (nI d)), some (.inl (nI j)), none] [] u
  | 0, j, u, ch, h, hI => by
    obtain rfl : j = nd := by omega
    have hnd := hG.1
    have hn : u 34 6 = nI j := by rw [hI.1 34 (by omega)]; exact hG.2.1
    refine st_X6_downs_49 ?_; simp only [bX6_downs_49, exP, stP, p1, p2, pr, pobj, parr, sh0, sh1, sh2, sh3, sh4, sh5, sh6, sh7, sh8, sh9, sh10, sh11, sh12, sh13, sh14, sh15, sh16, sh17, sh18, sh19, sh20, sh21, sh22, sh23, sh24, sh25, sh26, sh27, sh28, sh29, sh30, sh31, sh32, sh33, sh34, sh35, sh36, sh37, sh38, sh39, sh40, sh41, sh42, sh43, sh44, sh45, sh46, sh47, sh48, sh49, sh50, sh51, sh52, sh53, sh54, sh55, sh56, sh57, sh58, sh59, brP, brN, swP, amask, apush, List.getElem?_cons_zero, List.getElem?_cons_succ, List.set_cons_zero, List.set_cons_succ, List.take_succ_cons, List.take_zero, List.drop_succ_cons, List.drop_zero, List.reverse_cons, List.reverse_nil, List.nil_append, List.cons_append, List.length_cons, List.length_nil, true_and, and_true, Nat.zero_le, Nat.reduceLeDiff, Nat.reduceAdd, Nat.reduceEqDiff, false_imp_iff, true_imp_iff, not_false_eq_true, not_true_eq_false, imp_self, forall_const, hn, eq_true (nI_le (Nat.le_refl j) (show j < 2 ^ 31 by omega))]
    exact kk u ch (hI.P (fun a b c ha hb _ _ _ q => by omega))
  | n + 1, j, u, ch, h, hI => by
    have hnd := hG.1
    have hj : j < nd := by omega
    have hn : u 34 6 = nI nd := by rw [hI.1 34 (by omega)]; exact hG.2.1
    have hw2 : u 34 2 = m 34 2 := by rw [hI.1 34 (by omega)]
    have vj := eq_true (vp_in_nI (show j < 12 by omega) (show 12 < 2 ^ 31 by omega))
    have cj := nI_clamp (show j < 2 ^ 31 by omega)
    have vd := eq_true (vp_in_nI (show d < 12 by omega) (show 12 < 2 ^ 31 by omega))
    have cd := nI_clamp (show d < 2 ^ 31 by omega)
    have vz := eq_true (vp_in_nI (show 12 * j + d < 144 by omega) (show 144 < 2 ^ 31 by omega))
    have cz := nI_clamp (show 12 * j + d < 2 ^ 31 by omega)
    have vx := eq_true (vp_in_nI (show 12 * d + j < 144 by omega) (show 144 < 2 ^ 31 by omega))
    have cx := nI_clamp (show 12 * d + j < 2 ^ 31 by omega)
    have hc0 := GW_c hG
    have back : ∀ (u' : AM) (ch' : Bool), DNI m nd t m0 u' ch' (fun a b => a < d ∨ (a = d ∧ b < j + 1)) → AW 1 kX6_downs (DNQ m t) 171 [some (.inr 34), some (.inl (nI t)), some (.inl (b01 ch')), some (.inl (nI d)), some (.inl (nI j)), none] [] u' := by
      intro u' ch' hI'
      refine st_X6_downs_171 ?_; simp only [bX6_downs_171, exP, stP, p1, p2, pr, pobj, parr, sh0, sh1, sh2, sh3, sh4, sh5, sh6, sh7, sh8, sh9, sh10, sh11, sh12, sh13, sh14, sh15, sh16, sh17, sh18, sh19, sh20, sh21, sh22, sh23, sh24, sh25, sh26, sh27, sh28, sh29, sh30, sh31, sh32, sh33, sh34, sh35, sh36, sh37, sh38, sh39, sh40, sh41, sh42, sh43, sh44, sh45, sh46, sh47, sh48, sh49, sh50, sh51, sh52, sh53, sh54, sh55, sh56, sh57, sh58, sh59, brP, brN, swP, amask, apush, List.getElem?_cons_zero, List.getElem?_cons_succ, List.set_cons_zero, List.set_cons_succ, List.take_succ_cons, List.take_zero, List.drop_succ_cons, List.drop_zero, List.reverse_cons, List.reverse_nil, List.nil_append, List.cons_append, List.length_cons, List.length_nil, true_and, and_true, Nat.zero_le, Nat.reduceLeDiff, Nat.reduceAdd, Nat.reduceEqDiff, false_imp_iff, true_imp_iff, not_false_eq_true, not_true_eq_false, imp_self, forall_const]
      rw [nI_1]
      exact w_downs_in m nd t hG ht m0 d hd kk n (j + 1) u' ch' (by omega) hI'
    have skip : (∀ c, t.testBit d = true → t.testBit j = true → gC m j d = some c → False) → AW 1 kX6_downs (DNQ m t) 171 [some (.inr 34), some (.inl (nI t)), some (.inl (b01 ch)), some (.inl (nI d)), some (.inl (nI j)), none] [] u := by
      intro hno
      refine back u ch (hI.P (fun a b c ha hb hta htb hc q => ?_))
      by_cases r : a = d ∧ b = j
      · obtain ⟨rfl, rfl⟩ := r
        exact absurd (hno c hta htb hc) id
      · omega
    have fin : ∀ (lim : Int32) (c : Int), t.testBit d = true → t.testBit j = true → gC m j d = some c → lim.toInt = (u 58 j).toInt + c → AW 1 kX6_downs (DNQ m t) 145 [some (.inr 34), some (.inl (nI t)), some (.inl (b01 ch)), some (.inl (nI d)), some (.inl (nI j)), none] [.inl lim] u := by
      intro lim cc hta htj hcc e1
      have hcc0 := hc0 j d cc hcc
      obtain ⟨h1, h2, h3, h4, h5⟩ := hI
      have hjj := h2 j hj
      have hdd := h2 d hd
      refine st_X6_downs_145 ?_; simp only [bX6_downs_145, exP, stP, p1, p2, pr, pobj, parr, sh0, sh1, sh2, sh3, sh4, sh5, sh6, sh7, sh8, sh9, sh10, sh11, sh12, sh13, sh14, sh15, sh16, sh17, sh18, sh19, sh20, sh21, sh22, sh23, sh24, sh25, sh26, sh27, sh28, sh29, sh30, sh31, sh32, sh33, sh34, sh35, sh36, sh37, sh38, sh39, sh40, sh41, sh42, sh43, sh44, sh45, sh46, sh47, sh48, sh49, sh50, sh51, sh52, sh53, sh54, sh55, sh56, sh57, sh58, sh59, brP, brN, swP, amask, apush, List.getElem?_cons_zero, List.getElem?_cons_succ, List.set_cons_zero, List.set_cons_succ, List.take_succ_cons, List.take_zero, List.drop_succ_cons, List.drop_zero, List.reverse_cons, List.reverse_nil, List.nil_append, List.cons_append, List.length_cons, List.length_nil, true_and, and_true, Nat.zero_le, Nat.reduceLeDiff, Nat.reduceAdd, Nat.reduceEqDiff, false_imp_iff, true_imp_iff, not_false_eq_true, not_true_eq_false, imp_self, forall_const, vd, cd]
      refine ⟨fun c3 => ?_, fun c3 => ?_⟩
      · rw [Int32.lt_iff_toInt_lt] at c3
        refine st_X6_downs_161 ?_; simp only [bX6_downs_161, exP, stP, p1, p2, pr, pobj, parr, sh0, sh1, sh2, sh3, sh4, sh5, sh6, sh7, sh8, sh9, sh10, sh11, sh12, sh13, sh14, sh15, sh16, sh17, sh18, sh19, sh20, sh21, sh22, sh23, sh24, sh25, sh26, sh27, sh28, sh29, sh30, sh31, sh32, sh33, sh34, sh35, sh36, sh37, sh38, sh39, sh40, sh41, sh42, sh43, sh44, sh45, sh46, sh47, sh48, sh49, sh50, sh51, sh52, sh53, sh54, sh55, sh56, sh57, sh58, sh59, brP, brN, swP, amask, apush, List.getElem?_cons_zero, List.getElem?_cons_succ, List.set_cons_zero, List.set_cons_succ, List.take_succ_cons, List.take_zero, List.drop_succ_cons, List.drop_zero, List.reverse_cons, List.reverse_nil, List.nil_append, List.cons_append, List.length_cons, List.length_nil, true_and, and_true, Nat.zero_le, Nat.reduceLeDiff, Nat.reduceAdd, Nat.reduceEqDiff, false_imp_iff, true_imp_iff, not_false_eq_true, not_true_eq_false, imp_self, forall_const, vd, cd]
        refine back _ true ⟨fun k hk => ?_, fun b hb => ?_, fun y hy hyc b hb htb => ?_, fun q => absurd q (by decide), fun _ => ⟨d, hd, ?_⟩⟩
        · rw [aup_ne hk]; exact h1 k hk
        · rw [aup_eq]
          by_cases r : b = d
          · subst r; rw [upd_eq]; omega
          · rw [upd_ne r]; exact h2 b hb
        · rw [aup_eq]
          by_cases r : b = d
          · subst r
            rw [upd_eq]
            have := h3 y hy hyc j (by omega) htj
            have := hyc j b cc (by omega) hb htj htb hcc
            omega
          · rw [upd_ne r]; exact h3 y hy hyc b hb htb
        · rw [aup_eq, upd_eq]; omega
      · rw [Int32.lt_iff_toInt_lt] at c3
        refine st_X6_downs_158 ?_; simp only [bX6_downs_158, exP, stP, p1, p2, pr, pobj, parr, sh0, sh1, sh2, sh3, sh4, sh5, sh6, sh7, sh8, sh9, sh10, sh11, sh12, sh13, sh14, sh15, sh16, sh17, sh18, sh19, sh20, sh21, sh22, sh23, sh24, sh25, sh26, sh27, sh28, sh29, sh30, sh31, sh32, sh33, sh34, sh35, sh36, sh37, sh38, sh39, sh40, sh41, sh42, sh43, sh44, sh45, sh46, sh47, sh48, sh49, sh50, sh51, sh52, sh53, sh54, sh55, sh56, sh57, sh58, sh59, brP, brN, swP, amask, apush, List.getElem?_cons_zero, List.getElem?_cons_succ, List.set_cons_zero, List.set_cons_succ, List.take_succ_cons, List.take_zero, List.drop_succ_cons, List.drop_zero, List.reverse_cons, List.reverse_nil, List.nil_append, List.cons_append, List.length_cons, List.length_nil, true_and, and_true, Nat.zero_le, Nat.reduceLeDiff, Nat.reduceAdd, Nat.reduceEqDiff, false_imp_iff, true_imp_iff, not_false_eq_true, not_true_eq_false, imp_self, forall_const]
        refine back u ch ⟨h1, h2, h3, fun q => ⟨(h4 q).1, fun a b c' ha hb hp hat hbt hc' => ?_⟩, h5⟩
        by_cases r : a = d ∧ b = j
        · obtain ⟨rfl, rfl⟩ := r
          rw [hcc] at hc'
          cases hc'
          rw [(h4 q).1 a ha] at c3
          rw [(h4 q).1 b hb] at e1
          omega
        · exact (h4 q).2 a b c' ha hb (by omega) hat hbt hc'
    refine st_X6_downs_49 ?_; simp only [bX6_downs_49, exP, stP, p1, p2, pr, pobj, parr, sh0, sh1, sh2, sh3, sh4, sh5, sh6, sh7, sh8, sh9, sh10, sh11, sh12, sh13, sh14, sh15, sh16, sh17, sh18, sh19, sh20, sh21, sh22, sh23, sh24, sh25, sh26, sh27, sh28, sh29, sh30, sh31, sh32, sh33, sh34, sh35, sh36, sh37, sh38, sh39, sh40, sh41, sh42, sh43, sh44, sh45, sh46, sh47, sh48, sh49, sh50, sh51, sh52, sh53, sh54, sh55, sh56, sh57, sh58, sh59, brP, brN, swP, amask, apush, List.getElem?_cons_zero, List.getElem?_cons_succ, List.set_cons_zero, List.set_cons_succ, List.take_succ_cons, List.take_zero, List.drop_succ_cons, List.drop_zero, List.reverse_cons, List.reverse_nil, List.nil_append, List.cons_append, List.length_cons, List.length_nil, true_and, and_true, Nat.zero_le, Nat.reduceLeDiff, Nat.reduceAdd, Nat.reduceEqDiff, false_imp_iff, true_imp_iff, not_false_eq_true, not_true_eq_false, imp_self, forall_const, hn, eq_false (nI_ge (show j < nd by omega) (show nd < 2 ^ 31 by omega))]
    refine st_X6_downs_58 ?_; simp only [bX6_downs_58, exP, stP, p1, p2, pr, pobj, parr, sh0, sh1, sh2, sh3, sh4, sh5, sh6, sh7, sh8, sh9, sh10, sh11, sh12, sh13, sh14, sh15, sh16, sh17, sh18, sh19, sh20, sh21, sh22, sh23, sh24, sh25, sh26, sh27, sh28, sh29, sh30, sh31, sh32, sh33, sh34, sh35, sh36, sh37, sh38, sh39, sh40, sh41, sh42, sh43, sh44, sh45, sh46, sh47, sh48, sh49, sh50, sh51, sh52, sh53, sh54, sh55, sh56, sh57, sh58, sh59, brP, brN, swP, amask, apush, List.getElem?_cons_zero, List.getElem?_cons_succ, List.set_cons_zero, List.set_cons_succ, List.take_succ_cons, List.take_zero, List.drop_succ_cons, List.drop_zero, List.reverse_cons, List.reverse_nil, List.nil_append, List.cons_append, List.length_cons, List.length_nil, true_and, and_true, Nat.zero_le, Nat.reduceLeDiff, Nat.reduceAdd, Nat.reduceEqDiff, false_imp_iff, true_imp_iff, not_false_eq_true, not_true_eq_false, imp_self, forall_const, nI_inj (show d < 2147483648 by omega) (show j < 2147483648 by omega)]
    refine ⟨fun c => skip (fun cc _ _ hc => ?_), fun c => ?_⟩
    · subst c
      unfold gC at hc
      rw [if_pos rfl] at hc
      cases hc
    refine st_X6_downs_64 ?_; simp only [bX6_downs_64, exP, stP, p1, p2, pr, pobj, parr, sh0, sh1, sh2, sh3, sh4, sh5, sh6, sh7, sh8, sh9, sh10, sh11, sh12, sh13, sh14, sh15, sh16, sh17, sh18, sh19, sh20, sh21, sh22, sh23, sh24, sh25, sh26, sh27, sh28, sh29, sh30, sh31, sh32, sh33, sh34, sh35, sh36, sh37, sh38, sh39, sh40, sh41, sh42, sh43, sh44, sh45, sh46, sh47, sh48, sh49, sh50, sh51, sh52, sh53, sh54, sh55, sh56, sh57, sh58, sh59, brP, brN, swP, amask, apush, List.getElem?_cons_zero, List.getElem?_cons_succ, List.set_cons_zero, List.set_cons_succ, List.take_succ_cons, List.take_zero, List.drop_succ_cons, List.drop_zero, List.reverse_cons, List.reverse_nil, List.nil_append, List.cons_append, List.length_cons, List.length_nil, true_and, and_true, Nat.zero_le, Nat.reduceLeDiff, Nat.reduceAdd, Nat.reduceEqDiff, false_imp_iff, true_imp_iff, not_false_eq_true, not_true_eq_false, imp_self, forall_const]
    refine ⟨_, ⟨0, by decide, c_mhas _ _ d (by omega)⟩, ?_⟩; rintro _ _ ⟨rfl, rfl⟩; simp only [exP, stP, p1, p2, pr, pobj, parr, sh0, sh1, sh2, sh3, sh4, sh5, sh6, sh7, sh8, sh9, sh10, sh11, sh12, sh13, sh14, sh15, sh16, sh17, sh18, sh19, sh20, sh21, sh22, sh23, sh24, sh25, sh26, sh27, sh28, sh29, sh30, sh31, sh32, sh33, sh34, sh35, sh36, sh37, sh38, sh39, sh40, sh41, sh42, sh43, sh44, sh45, sh46, sh47, sh48, sh49, sh50, sh51, sh52, sh53, sh54, sh55, sh56, sh57, sh58, sh59, brP, brN, swP, amask, apush, List.getElem?_cons_zero, List.getElem?_cons_succ, List.set_cons_zero, List.set_cons_succ, List.take_succ_cons, List.take_zero, List.drop_succ_cons, List.drop_zero, List.reverse_cons, List.reverse_nil, List.nil_append, List.cons_append, List.length_cons, List.length_nil, true_and, and_true, Nat.zero_le, Nat.reduceLeDiff, Nat.reduceAdd, Nat.reduceEqDiff, false_imp_iff, true_imp_iff, not_false_eq_true, not_true_eq_false, imp_self, forall_const, b01_0, bt_nI (show t < 4294967296 by omega)]
    refine ⟨fun c1 => skip (fun cc q _ _ => by rw [c1] at q; cases q), fun c1 => ?_⟩
    have c1' : t.testBit d = true := by simpa using c1
    refine st_X6_downs_72 ?_; simp only [bX6_downs_72, exP, stP, p1, p2, pr, pobj, parr, sh0, sh1, sh2, sh3, sh4, sh5, sh6, sh7, sh8, sh9, sh10, sh11, sh12, sh13, sh14, sh15, sh16, sh17, sh18, sh19, sh20, sh21, sh22, sh23, sh24, sh25, sh26, sh27, sh28, sh29, sh30, sh31, sh32, sh33, sh34, sh35, sh36, sh37, sh38, sh39, sh40, sh41, sh42, sh43, sh44, sh45, sh46, sh47, sh48, sh49, sh50, sh51, sh52, sh53, sh54, sh55, sh56, sh57, sh58, sh59, brP, brN, swP, amask, apush, List.getElem?_cons_zero, List.getElem?_cons_succ, List.set_cons_zero, List.set_cons_succ, List.take_succ_cons, List.take_zero, List.drop_succ_cons, List.drop_zero, List.reverse_cons, List.reverse_nil, List.nil_append, List.cons_append, List.length_cons, List.length_nil, true_and, and_true, Nat.zero_le, Nat.reduceLeDiff, Nat.reduceAdd, Nat.reduceEqDiff, false_imp_iff, true_imp_iff, not_false_eq_true, not_true_eq_false, imp_self, forall_const]
    refine ⟨_, ⟨0, by decide, c_mhas _ _ j (by omega)⟩, ?_⟩; rintro _ _ ⟨rfl, rfl⟩; simp only [exP, stP, p1, p2, pr, pobj, parr, sh0, sh1, sh2, sh3, sh4, sh5, sh6, sh7, sh8, sh9, sh10, sh11, sh12, sh13, sh14, sh15, sh16, sh17, sh18, sh19, sh20, sh21, sh22, sh23, sh24, sh25, sh26, sh27, sh28, sh29, sh30, sh31, sh32, sh33, sh34, sh35, sh36, sh37, sh38, sh39, sh40, sh41, sh42, sh43, sh44, sh45, sh46, sh47, sh48, sh49, sh50, sh51, sh52, sh53, sh54, sh55, sh56, sh57, sh58, sh59, brP, brN, swP, amask, apush, List.getElem?_cons_zero, List.getElem?_cons_succ, List.set_cons_zero, List.set_cons_succ, List.take_succ_cons, List.take_zero, List.drop_succ_cons, List.drop_zero, List.reverse_cons, List.reverse_nil, List.nil_append, List.cons_append, List.length_cons, List.length_nil, true_and, and_true, Nat.zero_le, Nat.reduceLeDiff, Nat.reduceAdd, Nat.reduceEqDiff, false_imp_iff, true_imp_iff, not_false_eq_true, not_true_eq_false, imp_self, forall_const, b01_0, bt_nI (show t < 4294967296 by omega)]
    refine ⟨fun c2 => ?_, fun c2 => ?_⟩
    · have c2' : t.testBit j = true := by simpa using c2
      have u56 : u 56 (12 * j + d) = m 56 (12 * j + d) := by rw [hI.1 56 (by omega)]
      have u55 : u 55 (12 * d + j) = m 55 (12 * d + j) := by rw [hI.1 55 (by omega)]
      refine st_X6_downs_84 ?_; simp only [bX6_downs_84, exP, stP, p1, p2, pr, pobj, parr, sh0, sh1, sh2, sh3, sh4, sh5, sh6, sh7, sh8, sh9, sh10, sh11, sh12, sh13, sh14, sh15, sh16, sh17, sh18, sh19, sh20, sh21, sh22, sh23, sh24, sh25, sh26, sh27, sh28, sh29, sh30, sh31, sh32, sh33, sh34, sh35, sh36, sh37, sh38, sh39, sh40, sh41, sh42, sh43, sh44, sh45, sh46, sh47, sh48, sh49, sh50, sh51, sh52, sh53, sh54, sh55, sh56, sh57, sh58, sh59, brP, brN, swP, amask, apush, List.getElem?_cons_zero, List.getElem?_cons_succ, List.set_cons_zero, List.set_cons_succ, List.take_succ_cons, List.take_zero, List.drop_succ_cons, List.drop_zero, List.reverse_cons, List.reverse_nil, List.nil_append, List.cons_append, List.length_cons, List.length_nil, true_and, and_true, Nat.zero_le, Nat.reduceLeDiff, Nat.reduceAdd, Nat.reduceEqDiff, false_imp_iff, true_imp_iff, not_false_eq_true, not_true_eq_false, imp_self, forall_const, nI_12, vz, cz, true_or, or_true]
      rw [u56]
      refine ⟨fun c3 => ?_, fun c3 => ?_⟩
      · refine st_X6_downs_109 ?_; simp only [bX6_downs_109, exP, stP, p1, p2, pr, pobj, parr, sh0, sh1, sh2, sh3, sh4, sh5, sh6, sh7, sh8, sh9, sh10, sh11, sh12, sh13, sh14, sh15, sh16, sh17, sh18, sh19, sh20, sh21, sh22, sh23, sh24, sh25, sh26, sh27, sh28, sh29, sh30, sh31, sh32, sh33, sh34, sh35, sh36, sh37, sh38, sh39, sh40, sh41, sh42, sh43, sh44, sh45, sh46, sh47, sh48, sh49, sh50, sh51, sh52, sh53, sh54, sh55, sh56, sh57, sh58, sh59, brP, brN, swP, amask, apush, List.getElem?_cons_zero, List.getElem?_cons_succ, List.set_cons_zero, List.set_cons_succ, List.take_succ_cons, List.take_zero, List.drop_succ_cons, List.drop_zero, List.reverse_cons, List.reverse_nil, List.nil_append, List.cons_append, List.length_cons, List.length_nil, true_and, and_true, Nat.zero_le, Nat.reduceLeDiff, Nat.reduceAdd, Nat.reduceEqDiff, false_imp_iff, true_imp_iff, not_false_eq_true, not_true_eq_false, imp_self, forall_const, nI_12, vx, cx, true_or, or_true]
        rw [u55]
        refine ⟨fun c4 => ?_, fun c4 => ?_⟩
        · refine st_X6_downs_139 ?_; simp only [bX6_downs_139, exP, stP, p1, p2, pr, pobj, parr, sh0, sh1, sh2, sh3, sh4, sh5, sh6, sh7, sh8, sh9, sh10, sh11, sh12, sh13, sh14, sh15, sh16, sh17, sh18, sh19, sh20, sh21, sh22, sh23, sh24, sh25, sh26, sh27, sh28, sh29, sh30, sh31, sh32, sh33, sh34, sh35, sh36, sh37, sh38, sh39, sh40, sh41, sh42, sh43, sh44, sh45, sh46, sh47, sh48, sh49, sh50, sh51, sh52, sh53, sh54, sh55, sh56, sh57, sh58, sh59, brP, brN, swP, amask, apush, List.getElem?_cons_zero, List.getElem?_cons_succ, List.set_cons_zero, List.set_cons_succ, List.take_succ_cons, List.take_zero, List.drop_succ_cons, List.drop_zero, List.reverse_cons, List.reverse_nil, List.nil_append, List.cons_append, List.length_cons, List.length_nil, true_and, and_true, Nat.zero_le, Nat.reduceLeDiff, Nat.reduceAdd, Nat.reduceEqDiff, false_imp_iff, true_imp_iff, not_false_eq_true, not_true_eq_false, imp_self, forall_const, vd, cd]
          refine st_X6_downs_145 ?_; simp only [bX6_downs_145, exP, stP, p1, p2, pr, pobj, parr, sh0, sh1, sh2, sh3, sh4, sh5, sh6, sh7, sh8, sh9, sh10, sh11, sh12, sh13, sh14, sh15, sh16, sh17, sh18, sh19, sh20, sh21, sh22, sh23, sh24, sh25, sh26, sh27, sh28, sh29, sh30, sh31, sh32, sh33, sh34, sh35, sh36, sh37, sh38, sh39, sh40, sh41, sh42, sh43, sh44, sh45, sh46, sh47, sh48, sh49, sh50, sh51, sh52, sh53, sh54, sh55, sh56, sh57, sh58, sh59, brP, brN, swP, amask, apush, List.getElem?_cons_zero, List.getElem?_cons_succ, List.set_cons_zero, List.set_cons_succ, List.take_succ_cons, List.take_zero, List.drop_succ_cons, List.drop_zero, List.reverse_cons, List.reverse_nil, List.nil_append, List.cons_append, List.length_cons, List.length_nil, true_and, and_true, Nat.zero_le, Nat.reduceLeDiff, Nat.reduceAdd, Nat.reduceEqDiff, false_imp_iff, true_imp_iff, not_false_eq_true, not_true_eq_false, imp_self, forall_const, vd, cd]
          refine ⟨fun c5 => absurd c5 (by rw [Int32.lt_iff_toInt_lt]; omega), fun c5 => ?_⟩
          refine st_X6_downs_158 ?_; simp only [bX6_downs_158, exP, stP, p1, p2, pr, pobj, parr, sh0, sh1, sh2, sh3, sh4, sh5, sh6, sh7, sh8, sh9, sh10, sh11, sh12, sh13, sh14, sh15, sh16, sh17, sh18, sh19, sh20, sh21, sh22, sh23, sh24, sh25, sh26, sh27, sh28, sh29, sh30, sh31, sh32, sh33, sh34, sh35, sh36, sh37, sh38, sh39, sh40, sh41, sh42, sh43, sh44, sh45, sh46, sh47, sh48, sh49, sh50, sh51, sh52, sh53, sh54, sh55, sh56, sh57, sh58, sh59, brP, brN, swP, amask, apush, List.getElem?_cons_zero, List.getElem?_cons_succ, List.set_cons_zero, List.set_cons_succ, List.take_succ_cons, List.take_zero, List.drop_succ_cons, List.drop_zero, List.reverse_cons, List.reverse_nil, List.nil_append, List.cons_append, List.length_cons, List.length_nil, true_and, and_true, Nat.zero_le, Nat.reduceLeDiff, Nat.reduceAdd, Nat.reduceEqDiff, false_imp_iff, true_imp_iff, not_false_eq_true, not_true_eq_false, imp_self, forall_const]
          refine skip (fun cc _ _ hc => ?_)
          unfold gC at hc
          rw [if_neg (fun q => c q.symm), if_pos c3, if_pos ((hG.2.2.2.2 d j hd hj).mp c4)] at hc
          cases hc
        · refine st_X6_downs_124 ?_; simp only [bX6_downs_124, exP, stP, p1, p2, pr, pobj, parr, sh0, sh1, sh2, sh3, sh4, sh5, sh6, sh7, sh8, sh9, sh10, sh11, sh12, sh13, sh14, sh15, sh16, sh17, sh18, sh19, sh20, sh21, sh22, sh23, sh24, sh25, sh26, sh27, sh28, sh29, sh30, sh31, sh32, sh33, sh34, sh35, sh36, sh37, sh38, sh39, sh40, sh41, sh42, sh43, sh44, sh45, sh46, sh47, sh48, sh49, sh50, sh51, sh52, sh53, sh54, sh55, sh56, sh57, sh58, sh59, brP, brN, swP, amask, apush, List.getElem?_cons_zero, List.getElem?_cons_succ, List.set_cons_zero, List.set_cons_succ, List.take_succ_cons, List.take_zero, List.drop_succ_cons, List.drop_zero, List.reverse_cons, List.reverse_nil, List.nil_append, List.cons_append, List.length_cons, List.length_nil, true_and, and_true, Nat.zero_le, Nat.reduceLeDiff, Nat.reduceAdd, Nat.reduceEqDiff, false_imp_iff, true_imp_iff, not_false_eq_true, not_true_eq_false, imp_self, forall_const, vj, cj]
          have hjj := hI.2.1 j hj
          have hF := hG.2.2.1 j hj
          have hw := hG.2.2.2.1
          refine fin _ (m 34 2).toInt c1' c2' (by unfold gC; rw [if_neg (fun q => c q.symm), if_pos c3, if_neg (fun q => c4 ((hG.2.2.2.2 d j hd hj).mpr q))]) ?_
          rw [hw2, i32_add (by omega) (by omega)]
      · refine st_X6_downs_99 ?_; simp only [bX6_downs_99, exP, stP, p1, p2, pr, pobj, parr, sh0, sh1, sh2, sh3, sh4, sh5, sh6, sh7, sh8, sh9, sh10, sh11, sh12, sh13, sh14, sh15, sh16, sh17, sh18, sh19, sh20, sh21, sh22, sh23, sh24, sh25, sh26, sh27, sh28, sh29, sh30, sh31, sh32, sh33, sh34, sh35, sh36, sh37, sh38, sh39, sh40, sh41, sh42, sh43, sh44, sh45, sh46, sh47, sh48, sh49, sh50, sh51, sh52, sh53, sh54, sh55, sh56, sh57, sh58, sh59, brP, brN, swP, amask, apush, List.getElem?_cons_zero, List.getElem?_cons_succ, List.set_cons_zero, List.set_cons_succ, List.take_succ_cons, List.take_zero, List.drop_succ_cons, List.drop_zero, List.reverse_cons, List.reverse_nil, List.nil_append, List.cons_append, List.length_cons, List.length_nil, true_and, and_true, Nat.zero_le, Nat.reduceLeDiff, Nat.reduceAdd, Nat.reduceEqDiff, false_imp_iff, true_imp_iff, not_false_eq_true, not_true_eq_false, imp_self, forall_const, vj, cj]
        exact fin _ 0 c1' c2' (by unfold gC; rw [if_neg (fun q => c q.symm), if_neg c3]) (by omega)
    · refine st_X6_downs_81 ?_; simp only [bX6_downs_81, exP, stP, p1, p2, pr, pobj, parr, sh0, sh1, sh2, sh3, sh4, sh5, sh6, sh7, sh8, sh9, sh10, sh11, sh12, sh13, sh14, sh15, sh16, sh17, sh18, sh19, sh20, sh21, sh22, sh23, sh24, sh25, sh26, sh27, sh28, sh29, sh30, sh31, sh32, sh33, sh34, sh35, sh36, sh37, sh38, sh39, sh40, sh41, sh42, sh43, sh44, sh45, sh46, sh47, sh48, sh49, sh50, sh51, sh52, sh53, sh54, sh55, sh56, sh57, sh58, sh59, brP, brN, swP, amask, apush, List.getElem?_cons_zero, List.getElem?_cons_succ, List.set_cons_zero, List.set_cons_succ, List.take_succ_cons, List.take_zero, List.drop_succ_cons, List.drop_zero, List.reverse_cons, List.reverse_nil, List.nil_append, List.cons_append, List.length_cons, List.length_nil, true_and, and_true, Nat.zero_le, Nat.reduceLeDiff, Nat.reduceAdd, Nat.reduceEqDiff, false_imp_iff, true_imp_iff, not_false_eq_true, not_true_eq_false, imp_self, forall_const]
      exact skip (fun cc _ q _ => by rw [c2] at q; cases q)
theorem w_downs_out (m : AM) (nd t : Nat) (hG : GW m nd) (ht : t < 4096) (m0 : AM)
    (kk : ∀ u ch, DNI m nd t m0 u ch (fun _ _ => True) → AW 1 kX6_downs (DNQ m t) 183 [some (.inr 34), some (.inl (nI t)), some (.inl (b01 ch)), none, none, none] [] u) :
    ∀ (n d : Nat) (u : AM) (ch : Bool), d + n = nd → DNI m nd t m0 u ch (fun a _ => a < d) → AW 1 kX6_downs (DNQ m t) 38 [some (.inr 34), some (.inl (nI t)), some (.inl (b01 ch)), some (.inl (nI d)), none, none] [] u
  | 0, d, u, ch, h, hI => by
    obtain rfl : d = nd := by omega
    have hnd := hG.1
    have hn : u 34 6 = nI d := by rw [hI.1 34 (by omega)]; exact hG.2.1
    refine st_X6_downs_38 ?_; simp only [bX6_downs_38, exP, stP, p1, p2, pr, pobj, parr, sh0, sh1, sh2, sh3, sh4, sh5, sh6, sh7, sh8, sh9, sh10, sh11, sh12, sh13, sh14, sh15, sh16, sh17, sh18, sh19, sh20, sh21, sh22, sh23, sh24, sh25, sh26, sh27, sh28, sh29, sh30, sh31, sh32, sh33, sh34, sh35, sh36, sh37, sh38, sh39, sh40, sh41, sh42, sh43, sh44, sh45, sh46, sh47, sh48, sh49, sh50, sh51, sh52, sh53, sh54, sh55, sh56, sh57, sh58, sh59, brP, brN, swP, amask, apush, List.getElem?_cons_zero, List.getElem?_cons_succ, List.set_cons_zero, List.set_cons_succ, List.take_succ_cons, List.take_zero, List.drop_succ_cons, List.drop_zero, List.reverse_cons, List.reverse_nil, List.nil_append, List.cons_append, List.length_cons, List.length_nil, true_and, and_true, Nat.zero_le, Nat.reduceLeDiff, Nat.reduceAdd, Nat.reduceEqDiff, false_imp_iff, true_imp_iff, not_false_eq_true, not_true_eq_false, imp_self, forall_const, hn, eq_true (nI_le (Nat.le_refl d) (show d < 2 ^ 31 by omega))]
    exact kk u ch (hI.P (fun a b c ha hb _ _ _ q => ha))
  | n + 1, d, u, ch, h, hI => by
    have hnd := hG.1
    have hn : u 34 6 = nI nd := by rw [hI.1 34 (by omega)]; exact hG.2.1
    refine st_X6_downs_38 ?_; simp only [bX6_downs_38, exP, stP, p1, p2, pr, pobj, parr, sh0, sh1, sh2, sh3, sh4, sh5, sh6, sh7, sh8, sh9, sh10, sh11, sh12, sh13, sh14, sh15, sh16, sh17, sh18, sh19, sh20, sh21, sh22, sh23, sh24, sh25, sh26, sh27, sh28, sh29, sh30, sh31, sh32, sh33, sh34, sh35, sh36, sh37, sh38, sh39, sh40, sh41, sh42, sh43, sh44, sh45, sh46, sh47, sh48, sh49, sh50, sh51, sh52, sh53, sh54, sh55, sh56, sh57, sh58, sh59, brP, brN, swP, amask, apush, List.getElem?_cons_zero, List.getElem?_cons_succ, List.set_cons_zero, List.set_cons_succ, List.take_succ_cons, List.take_zero, List.drop_succ_cons, List.drop_zero, List.reverse_cons, List.reverse_nil, List.nil_append, List.cons_append, List.length_cons, List.length_nil, true_and, and_true, Nat.zero_le, Nat.reduceLeDiff, Nat.reduceAdd, Nat.reduceEqDiff, false_imp_iff, true_imp_iff, not_false_eq_true, not_true_eq_false, imp_self, forall_const, hn, eq_false (nI_ge (show d < nd by omega) (show nd < 2 ^ 31 by omega))]
    refine st_X6_downs_46 ?_; simp only [bX6_downs_46, exP, stP, p1, p2, pr, pobj, parr, sh0, sh1, sh2, sh3, sh4, sh5, sh6, sh7, sh8, sh9, sh10, sh11, sh12, sh13, sh14, sh15, sh16, sh17, sh18, sh19, sh20, sh21, sh22, sh23, sh24, sh25, sh26, sh27, sh28, sh29, sh30, sh31, sh32, sh33, sh34, sh35, sh36, sh37, sh38, sh39, sh40, sh41, sh42, sh43, sh44, sh45, sh46, sh47, sh48, sh49, sh50, sh51, sh52, sh53, sh54, sh55, sh56, sh57, sh58, sh59, brP, brN, swP, amask, apush, List.getElem?_cons_zero, List.getElem?_cons_succ, List.set_cons_zero, List.set_cons_succ, List.take_succ_cons, List.take_zero, List.drop_succ_cons, List.drop_zero, List.reverse_cons, List.reverse_nil, List.nil_append, List.cons_append, List.length_cons, List.length_nil, true_and, and_true, Nat.zero_le, Nat.reduceLeDiff, Nat.reduceAdd, Nat.reduceEqDiff, false_imp_iff, true_imp_iff, not_false_eq_true, not_true_eq_false, imp_self, forall_const]
    refine w_downs_in m nd t hG ht m0 d (by omega) (fun u ch hI => ?_) nd 0 u ch (by omega) (hI.P (fun a b c ha hb _ _ _ q => by omega))
    refine st_X6_downs_177 ?_; simp only [bX6_downs_177, exP, stP, p1, p2, pr, pobj, parr, sh0, sh1, sh2, sh3, sh4, sh5, sh6, sh7, sh8, sh9, sh10, sh11, sh12, sh13, sh14, sh15, sh16, sh17, sh18, sh19, sh20, sh21, sh22, sh23, sh24, sh25, sh26, sh27, sh28, sh29, sh30, sh31, sh32, sh33, sh34, sh35, sh36, sh37, sh38, sh39, sh40, sh41, sh42, sh43, sh44, sh45, sh46, sh47, sh48, sh49, sh50, sh51, sh52, sh53, sh54, sh55, sh56, sh57, sh58, sh59, brP, brN, swP, amask, apush, List.getElem?_cons_zero, List.getElem?_cons_succ, List.set_cons_zero, List.set_cons_succ, List.take_succ_cons, List.take_zero, List.drop_succ_cons, List.drop_zero, List.reverse_cons, List.reverse_nil, List.nil_append, List.cons_append, List.length_cons, List.length_nil, true_and, and_true, Nat.zero_le, Nat.reduceLeDiff, Nat.reduceAdd, Nat.reduceEqDiff, false_imp_iff, true_imp_iff, not_false_eq_true, not_true_eq_false, imp_self, forall_const]
    rw [nI_1]
    exact w_downs_out m nd t hG ht m0 kk n (d + 1) u ch (by omega) hI
theorem c_downs (m : AM) (nd t : Nat) (hG : GW m nd) (ht : t < 4096) (hin : inN t nd) : AC 1 kX6_downs [.inr 34, .inl (nI t)] m (DNQ m t) := by
  have hnd := hG.1
  have hc0 := GW_c hG
  refine AC_of own_X6_downs (ls := [some (.inr 34), some (.inl (nI t)), none, none, none, none]) (z := 4) (Nat.le_of_ble_eq_true rfl) rfl ?_
  have while_ : ∀ (N : Nat) (u : AM), (∀ k, k ≠ 58 → u k = m k) → (∀ b, b < nd → 0 ≤ (u 58 b).toInt ∧ (u 58 b).toInt ≤ gL m b) → (∀ y : Nat → Int, (∀ b, b < 12 → t.testBit b = true → y b ≤ gL m b) → clo (gC m) t y → ∀ b, b < 12 → t.testBit b = true → y b ≤ (u 58 b).toInt) → sumZ (fun b => (u 58 b).toInt) nd < N → AW 1 kX6_downs (DNQ m t) 30 [some (.inr 34), some (.inl (nI t)), some (.inl 1), none, none, none] [] u := by
    intro N
    induction N with
    | zero =>
      intro u h1 h2 h3 h4
      have := sumZ_nn (f := fun b => (u 58 b).toInt) nd (fun i hi => by have := h2 i hi; omega)
      omega
    | succ N ih =>
      intro u h1 h2 h3 h4
      refine st_X6_downs_30 ?_; simp only [bX6_downs_30, exP, stP, p1, p2, pr, pobj, parr, sh0, sh1, sh2, sh3, sh4, sh5, sh6, sh7, sh8, sh9, sh10, sh11, sh12, sh13, sh14, sh15, sh16, sh17, sh18, sh19, sh20, sh21, sh22, sh23, sh24, sh25, sh26, sh27, sh28, sh29, sh30, sh31, sh32, sh33, sh34, sh35, sh36, sh37, sh38, sh39, sh40, sh41, sh42, sh43, sh44, sh45, sh46, sh47, sh48, sh49, sh50, sh51, sh52, sh53, sh54, sh55, sh56, sh57, sh58, sh59, brP, brN, swP, amask, apush, List.getElem?_cons_zero, List.getElem?_cons_succ, List.set_cons_zero, List.set_cons_succ, List.take_succ_cons, List.take_zero, List.drop_succ_cons, List.drop_zero, List.reverse_cons, List.reverse_nil, List.nil_append, List.cons_append, List.length_cons, List.length_nil, true_and, and_true, Nat.zero_le, Nat.reduceLeDiff, Nat.reduceAdd, Nat.reduceEqDiff, false_imp_iff, true_imp_iff, not_false_eq_true, not_true_eq_false, imp_self, forall_const]
      refine ⟨fun c => absurd c (by decide), fun _ => ?_⟩
      refine st_X6_downs_34 ?_; simp only [bX6_downs_34, exP, stP, p1, p2, pr, pobj, parr, sh0, sh1, sh2, sh3, sh4, sh5, sh6, sh7, sh8, sh9, sh10, sh11, sh12, sh13, sh14, sh15, sh16, sh17, sh18, sh19, sh20, sh21, sh22, sh23, sh24, sh25, sh26, sh27, sh28, sh29, sh30, sh31, sh32, sh33, sh34, sh35, sh36, sh37, sh38, sh39, sh40, sh41, sh42, sh43, sh44, sh45, sh46, sh47, sh48, sh49, sh50, sh51, sh52, sh53, sh54, sh55, sh56, sh57, sh58, sh59, brP, brN, swP, amask, apush, List.getElem?_cons_zero, List.getElem?_cons_succ, List.set_cons_zero, List.set_cons_succ, List.take_succ_cons, List.take_zero, List.drop_succ_cons, List.drop_zero, List.reverse_cons, List.reverse_nil, List.nil_append, List.cons_append, List.length_cons, List.length_nil, true_and, and_true, Nat.zero_le, Nat.reduceLeDiff, Nat.reduceAdd, Nat.reduceEqDiff, false_imp_iff, true_imp_iff, not_false_eq_true, not_true_eq_false, imp_self, forall_const]
      refine w_downs_out m nd t hG ht u (fun u' ch hI => ?_) nd 0 u false (by omega) ⟨h1, fun b hb => ⟨Int.le_refl _, h2 b hb⟩, h3, fun _ => ⟨fun _ _ => rfl, fun a b c _ _ q => by omega⟩, fun q => absurd q (by decide)⟩
      obtain ⟨i1, i2, i3, i4, i5⟩ := hI
      refine st_X6_downs_183 ?_; simp only [bX6_downs_183, exP, stP, p1, p2, pr, pobj, parr, sh0, sh1, sh2, sh3, sh4, sh5, sh6, sh7, sh8, sh9, sh10, sh11, sh12, sh13, sh14, sh15, sh16, sh17, sh18, sh19, sh20, sh21, sh22, sh23, sh24, sh25, sh26, sh27, sh28, sh29, sh30, sh31, sh32, sh33, sh34, sh35, sh36, sh37, sh38, sh39, sh40, sh41, sh42, sh43, sh44, sh45, sh46, sh47, sh48, sh49, sh50, sh51, sh52, sh53, sh54, sh55, sh56, sh57, sh58, sh59, brP, brN, swP, amask, apush, List.getElem?_cons_zero, List.getElem?_cons_succ, List.set_cons_zero, List.set_cons_succ, List.take_succ_cons, List.take_zero, List.drop_succ_cons, List.drop_zero, List.reverse_cons, List.reverse_nil, List.nil_append, List.cons_append, List.length_cons, List.length_nil, true_and, and_true, Nat.zero_le, Nat.reduceLeDiff, Nat.reduceAdd, Nat.reduceEqDiff, false_imp_iff, true_imp_iff, not_false_eq_true, not_true_eq_false, imp_self, forall_const]
      cases ch with
      | true =>
        obtain ⟨b, hb, hlt⟩ := i5 rfl
        refine ih u' i1 (fun b hb => (i2 b hb).2) i3 ?_
        have := sumZ_lt (f := fun b => (u' 58 b).toInt) (g := fun b => (u 58 b).toInt) (j := b) nd (fun i hi => by have := i2 i hi; omega) hb (by omega)
        omega
      | false =>
        refine st_X6_downs_30 ?_; simp only [bX6_downs_30, exP, stP, p1, p2, pr, pobj, parr, sh0, sh1, sh2, sh3, sh4, sh5, sh6, sh7, sh8, sh9, sh10, sh11, sh12, sh13, sh14, sh15, sh16, sh17, sh18, sh19, sh20, sh21, sh22, sh23, sh24, sh25, sh26, sh27, sh28, sh29, sh30, sh31, sh32, sh33, sh34, sh35, sh36, sh37, sh38, sh39, sh40, sh41, sh42, sh43, sh44, sh45, sh46, sh47, sh48, sh49, sh50, sh51, sh52, sh53, sh54, sh55, sh56, sh57, sh58, sh59, brP, brN, swP, amask, apush, List.getElem?_cons_zero, List.getElem?_cons_succ, List.set_cons_zero, List.set_cons_succ, List.take_succ_cons, List.take_zero, List.drop_succ_cons, List.drop_zero, List.reverse_cons, List.reverse_nil, List.nil_append, List.cons_append, List.length_cons, List.length_nil, true_and, and_true, Nat.zero_le, Nat.reduceLeDiff, Nat.reduceAdd, Nat.reduceEqDiff, false_imp_iff, true_imp_iff, not_false_eq_true, not_true_eq_false, imp_self, forall_const]
        refine ⟨fun _ => ?_, fun c => absurd rfl c⟩
        refine st_X6_downs_186 ?_; simp only [bX6_downs_186, exP, stP, p1, p2, pr, pobj, parr, sh0, sh1, sh2, sh3, sh4, sh5, sh6, sh7, sh8, sh9, sh10, sh11, sh12, sh13, sh14, sh15, sh16, sh17, sh18, sh19, sh20, sh21, sh22, sh23, sh24, sh25, sh26, sh27, sh28, sh29, sh30, sh31, sh32, sh33, sh34, sh35, sh36, sh37, sh38, sh39, sh40, sh41, sh42, sh43, sh44, sh45, sh46, sh47, sh48, sh49, sh50, sh51, sh52, sh53, sh54, sh55, sh56, sh57, sh58, sh59, brP, brN, swP, amask, apush, List.getElem?_cons_zero, List.getElem?_cons_succ, List.set_cons_zero, List.set_cons_succ, List.take_succ_cons, List.take_zero, List.drop_succ_cons, List.drop_zero, List.reverse_cons, List.reverse_nil, List.nil_append, List.cons_append, List.length_cons, List.length_nil, true_and, and_true, Nat.zero_le, Nat.reduceLeDiff, Nat.reduceAdd, Nat.reduceEqDiff, false_imp_iff, true_imp_iff, not_false_eq_true, not_true_eq_false, imp_self, forall_const]
        obtain ⟨e1, e2⟩ := i4 rfl
        refine ⟨rfl, i1, fun b hb htb => (i2 b (hin b htb)).2.2, fun a b c ha hb hta htb hc => ?_, i3⟩
        have := e2 b a c (hin b htb) (hin a hta) trivial htb hta hc
        show (u' 58 b).toInt ≤ (u' 58 a).toInt + c
        rw [e1 a (hin a hta), e1 b (hin b htb)]
        omega
  have loop1 : ∀ (n j : Nat) (u : AM), j + n = nd → (∀ k, k ≠ 58 → u k = m k) → (∀ b, b < j → u 58 b = m 54 b) → AW 1 kX6_downs (DNQ m t) 2 [some (.inr 34), some (.inl (nI t)), some (.inl (nI j)), none, none, none] [] u := by
    intro n
    induction n with
    | zero =>
      intro j u hj h1 h2
      obtain rfl : j = nd := by omega
      have hn : u 34 6 = nI j := by rw [h1 34 (by omega)]; exact hG.2.1
      refine st_X6_downs_2 ?_; simp only [bX6_downs_2, exP, stP, p1, p2, pr, pobj, parr, sh0, sh1, sh2, sh3, sh4, sh5, sh6, sh7, sh8, sh9, sh10, sh11, sh12, sh13, sh14, sh15, sh16, sh17, sh18, sh19, sh20, sh21, sh22, sh23, sh24, sh25, sh26, sh27, sh28, sh29, sh30, sh31, sh32, sh33, sh34, sh35, sh36, sh37, sh38, sh39, sh40, sh41, sh42, sh43, sh44, sh45, sh46, sh47, sh48, sh49, sh50, sh51, sh52, sh53, sh54, sh55, sh56, sh57, sh58, sh59, brP, brN, swP, amask, apush, List.getElem?_cons_zero, List.getElem?_cons_succ, List.set_cons_zero, List.set_cons_succ, List.take_succ_cons, List.take_zero, List.drop_succ_cons, List.drop_zero, List.reverse_cons, List.reverse_nil, List.nil_append, List.cons_append, List.length_cons, List.length_nil, true_and, and_true, Nat.zero_le, Nat.reduceLeDiff, Nat.reduceAdd, Nat.reduceEqDiff, false_imp_iff, true_imp_iff, not_false_eq_true, not_true_eq_false, imp_self, forall_const, hn, eq_true (nI_le (Nat.le_refl j) (show j < 2 ^ 31 by omega))]
      refine st_X6_downs_28 ?_; simp only [bX6_downs_28, exP, stP, p1, p2, pr, pobj, parr, sh0, sh1, sh2, sh3, sh4, sh5, sh6, sh7, sh8, sh9, sh10, sh11, sh12, sh13, sh14, sh15, sh16, sh17, sh18, sh19, sh20, sh21, sh22, sh23, sh24, sh25, sh26, sh27, sh28, sh29, sh30, sh31, sh32, sh33, sh34, sh35, sh36, sh37, sh38, sh39, sh40, sh41, sh42, sh43, sh44, sh45, sh46, sh47, sh48, sh49, sh50, sh51, sh52, sh53, sh54, sh55, sh56, sh57, sh58, sh59, brP, brN, swP, amask, apush, List.getElem?_cons_zero, List.getElem?_cons_succ, List.set_cons_zero, List.set_cons_succ, List.take_succ_cons, List.take_zero, List.drop_succ_cons, List.drop_zero, List.reverse_cons, List.reverse_nil, List.nil_append, List.cons_append, List.length_cons, List.length_nil, true_and, and_true, Nat.zero_le, Nat.reduceLeDiff, Nat.reduceAdd, Nat.reduceEqDiff, false_imp_iff, true_imp_iff, not_false_eq_true, not_true_eq_false, imp_self, forall_const]
      have e : ∀ b, b < j → (u 58 b).toInt = gL m b := fun b hb => by rw [h2 b hb]; rfl
      refine while_ ((sumZ (fun b => (u 58 b).toInt) j).toNat + 1) u h1 (fun b hb => ?_) (fun y hy hyc b hb htb => ?_) (by omega)
      · have := hG.2.2.1 b hb
        rw [e b hb]; omega
      · rw [e b (hin b htb)]; exact hy b hb htb
    | succ n ih =>
      intro j u hj h1 h2
      have hn : u 34 6 = nI nd := by rw [h1 34 (by omega)]; exact hG.2.1
      have vj := eq_true (vp_in_nI (show j < 12 by omega) (show 12 < 2 ^ 31 by omega))
      have cj := nI_clamp (show j < 2 ^ 31 by omega)
      refine st_X6_downs_2 ?_; simp only [bX6_downs_2, exP, stP, p1, p2, pr, pobj, parr, sh0, sh1, sh2, sh3, sh4, sh5, sh6, sh7, sh8, sh9, sh10, sh11, sh12, sh13, sh14, sh15, sh16, sh17, sh18, sh19, sh20, sh21, sh22, sh23, sh24, sh25, sh26, sh27, sh28, sh29, sh30, sh31, sh32, sh33, sh34, sh35, sh36, sh37, sh38, sh39, sh40, sh41, sh42, sh43, sh44, sh45, sh46, sh47, sh48, sh49, sh50, sh51, sh52, sh53, sh54, sh55, sh56, sh57, sh58, sh59, brP, brN, swP, amask, apush, List.getElem?_cons_zero, List.getElem?_cons_succ, List.set_cons_zero, List.set_cons_succ, List.take_succ_cons, List.take_zero, List.drop_succ_cons, List.drop_zero, List.reverse_cons, List.reverse_nil, List.nil_append, List.cons_append, List.length_cons, List.length_nil, true_and, and_true, Nat.zero_le, Nat.reduceLeDiff, Nat.reduceAdd, Nat.reduceEqDiff, false_imp_iff, true_imp_iff, not_false_eq_true, not_true_eq_false, imp_self, forall_const, hn, eq_false (nI_ge (show j < nd by omega) (show nd < 2 ^ 31 by omega))]
      refine st_X6_downs_10 ?_; simp only [bX6_downs_10, exP, stP, p1, p2, pr, pobj, parr, sh0, sh1, sh2, sh3, sh4, sh5, sh6, sh7, sh8, sh9, sh10, sh11, sh12, sh13, sh14, sh15, sh16, sh17, sh18, sh19, sh20, sh21, sh22, sh23, sh24, sh25, sh26, sh27, sh28, sh29, sh30, sh31, sh32, sh33, sh34, sh35, sh36, sh37, sh38, sh39, sh40, sh41, sh42, sh43, sh44, sh45, sh46, sh47, sh48, sh49, sh50, sh51, sh52, sh53, sh54, sh55, sh56, sh57, sh58, sh59, brP, brN, swP, amask, apush, List.getElem?_cons_zero, List.getElem?_cons_succ, List.set_cons_zero, List.set_cons_succ, List.take_succ_cons, List.take_zero, List.drop_succ_cons, List.drop_zero, List.reverse_cons, List.reverse_nil, List.nil_append, List.cons_append, List.length_cons, List.length_nil, true_and, and_true, Nat.zero_le, Nat.reduceLeDiff, Nat.reduceAdd, Nat.reduceEqDiff, false_imp_iff, true_imp_iff, not_false_eq_true, not_true_eq_false, imp_self, forall_const, vj, cj]
      rw [nI_1]
      refine ih (j + 1) _ (by omega) (fun k hk => by rw [aup_ne hk]; exact h1 k hk) (fun b hb => ?_)
      rw [aup_eq]
      by_cases q : b = j
      · subst q; rw [upd_eq, h1 54 (by omega)]
      · rw [upd_ne q]; exact h2 b (by omega)
  refine st_X6_downs_0 ?_; simp only [bX6_downs_0, exP, stP, p1, p2, pr, pobj, parr, sh0, sh1, sh2, sh3, sh4, sh5, sh6, sh7, sh8, sh9, sh10, sh11, sh12, sh13, sh14, sh15, sh16, sh17, sh18, sh19, sh20, sh21, sh22, sh23, sh24, sh25, sh26, sh27, sh28, sh29, sh30, sh31, sh32, sh33, sh34, sh35, sh36, sh37, sh38, sh39, sh40, sh41, sh42, sh43, sh44, sh45, sh46, sh47, sh48, sh49, sh50, sh51, sh52, sh53, sh54, sh55, sh56, sh57, sh58, sh59, brP, brN, swP, amask, apush, List.getElem?_cons_zero, List.getElem?_cons_succ, List.set_cons_zero, List.set_cons_succ, List.take_succ_cons, List.take_zero, List.drop_succ_cons, List.drop_zero, List.reverse_cons, List.reverse_nil, List.nil_append, List.cons_append, List.length_cons, List.length_nil, true_and, and_true, Nat.zero_le, Nat.reduceLeDiff, Nat.reduceAdd, Nat.reduceEqDiff, false_imp_iff, true_imp_iff, not_false_eq_true, not_true_eq_false, imp_self, forall_const]
  exact loop1 nd 0 m (by omega) (fun _ _ => rfl) (fun b hb => by omega)
end
