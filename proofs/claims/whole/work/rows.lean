section
-- ===== PART A: goes FIRST, ahead of the names: the tables' words, and 'selects' of the private methods out of them =====
/-- a private method of a class that the tables say can be made, by its rows of tables_1 -/
def lw_okq (q : MethodName × Nat) : Prop := (q.1.cls ≠ "java/lang/invoke/MethodHandle" ∧ q.1.cls ≠ "java/lang/invoke/VarHandle") ∧ Cond.instantiable q.1.cls q.2 ∈ tables_1 ∧ Cond.privateMethod q.1 ∈ tables_1 ∧ Cond.instanceMethod q.1 ∈ tables_1
theorem lw_p0 : lw_okq (⟨"GooseCodex", "mixGates", "(J)J"⟩, 2) := ⟨⟨by decide +kernel, by decide +kernel⟩, List.mem_of_getElem? (i := 15) (by decide +kernel), List.mem_of_getElem? (i := 219) (by decide +kernel), List.mem_of_getElem? (i := 220) (by decide +kernel)⟩
theorem lw_p1 : lw_okq (⟨"java/lang/Throwable", "fillInStackTrace", "(I)Ljava/lang/Throwable;"⟩, 6) := ⟨⟨by decide +kernel, by decide +kernel⟩, List.mem_of_getElem? (i := 269) (by decide +kernel), List.mem_of_getElem? (i := 267) (by decide +kernel), List.mem_of_getElem? (i := 268) (by decide +kernel)⟩
theorem lw_p2 : lw_okq (⟨"GooseCodex", "mixGeese", "(J)J"⟩, 2) := ⟨⟨by decide +kernel, by decide +kernel⟩, List.mem_of_getElem? (i := 15) (by decide +kernel), List.mem_of_getElem? (i := 307) (by decide +kernel), List.mem_of_getElem? (i := 308) (by decide +kernel)⟩
theorem lw_p3 : lw_okq (⟨"GooseCodex", "demandGoose", "(I)V"⟩, 2) := ⟨⟨by decide +kernel, by decide +kernel⟩, List.mem_of_getElem? (i := 15) (by decide +kernel), List.mem_of_getElem? (i := 315) (by decide +kernel), List.mem_of_getElem? (i := 316) (by decide +kernel)⟩
theorem lw_p4 : lw_okq (⟨"GooseCodex", "demandVisitor", "(I)V"⟩, 2) := ⟨⟨by decide +kernel, by decide +kernel⟩, List.mem_of_getElem? (i := 15) (by decide +kernel), List.mem_of_getElem? (i := 339) (by decide +kernel), List.mem_of_getElem? (i := 340) (by decide +kernel)⟩
theorem lw_p5 : lw_okq (⟨"GooseCodexModel", "fail", "(I)I"⟩, 9) := ⟨⟨by decide +kernel, by decide +kernel⟩, List.mem_of_getElem? (i := 692) (by decide +kernel), List.mem_of_getElem? (i := 737) (by decide +kernel), List.mem_of_getElem? (i := 738) (by decide +kernel)⟩
theorem lw_p6 : lw_okq (⟨"GooseCodexModel", "isGate", "(I)Z"⟩, 9) := ⟨⟨by decide +kernel, by decide +kernel⟩, List.mem_of_getElem? (i := 692) (by decide +kernel), List.mem_of_getElem? (i := 745) (by decide +kernel), List.mem_of_getElem? (i := 746) (by decide +kernel)⟩
theorem lw_p7 : lw_okq (⟨"GooseCodexModel", "put", "(III)V"⟩, 9) := ⟨⟨by decide +kernel, by decide +kernel⟩, List.mem_of_getElem? (i := 692) (by decide +kernel), List.mem_of_getElem? (i := 749) (by decide +kernel), List.mem_of_getElem? (i := 750) (by decide +kernel)⟩
theorem lw_p8 : lw_okq (⟨"GooseCodexModel", "let", "(III)V"⟩, 9) := ⟨⟨by decide +kernel, by decide +kernel⟩, List.mem_of_getElem? (i := 692) (by decide +kernel), List.mem_of_getElem? (i := 757) (by decide +kernel), List.mem_of_getElem? (i := 758) (by decide +kernel)⟩
theorem lw_p9 : lw_okq (⟨"GooseCodexModel", "isGoose", "(I)Z"⟩, 9) := ⟨⟨by decide +kernel, by decide +kernel⟩, List.mem_of_getElem? (i := 692) (by decide +kernel), List.mem_of_getElem? (i := 769) (by decide +kernel), List.mem_of_getElem? (i := 770) (by decide +kernel)⟩
theorem lw_p10 : lw_okq (⟨"GooseCodexModel", "isVisitor", "(I)Z"⟩, 9) := ⟨⟨by decide +kernel, by decide +kernel⟩, List.mem_of_getElem? (i := 692) (by decide +kernel), List.mem_of_getElem? (i := 777) (by decide +kernel), List.mem_of_getElem? (i := 778) (by decide +kernel)⟩
theorem lw_p11 : lw_okq (⟨"GooseCodexModel", "vi", "(II)I"⟩, 9) := ⟨⟨by decide +kernel, by decide +kernel⟩, List.mem_of_getElem? (i := 692) (by decide +kernel), List.mem_of_getElem? (i := 781) (by decide +kernel), List.mem_of_getElem? (i := 782) (by decide +kernel)⟩
theorem lw_p12 : lw_okq (⟨"GooseCodexModel", "isIn", "(I)Z"⟩, 9) := ⟨⟨by decide +kernel, by decide +kernel⟩, List.mem_of_getElem? (i := 692) (by decide +kernel), List.mem_of_getElem? (i := 790) (by decide +kernel), List.mem_of_getElem? (i := 791) (by decide +kernel)⟩
theorem lw_p13 : lw_okq (⟨"GooseCodexModel", "feed", "(II)V"⟩, 9) := ⟨⟨by decide +kernel, by decide +kernel⟩, List.mem_of_getElem? (i := 692) (by decide +kernel), List.mem_of_getElem? (i := 794) (by decide +kernel), List.mem_of_getElem? (i := 795) (by decide +kernel)⟩
theorem lw_p14 : lw_okq (⟨"GooseCodexModel", "go", "(II)I"⟩, 9) := ⟨⟨by decide +kernel, by decide +kernel⟩, List.mem_of_getElem? (i := 692) (by decide +kernel), List.mem_of_getElem? (i := 798) (by decide +kernel), List.mem_of_getElem? (i := 799) (by decide +kernel)⟩
theorem lw_p15 : lw_okq (⟨"GooseCodexModel", "inside", "()I"⟩, 9) := ⟨⟨by decide +kernel, by decide +kernel⟩, List.mem_of_getElem? (i := 692) (by decide +kernel), List.mem_of_getElem? (i := 807) (by decide +kernel), List.mem_of_getElem? (i := 808) (by decide +kernel)⟩
def lw_privs_1 : List (MethodName × Nat) := [(⟨"GooseCodex", "mixGates", "(J)J"⟩, 2), (⟨"java/lang/Throwable", "fillInStackTrace", "(I)Ljava/lang/Throwable;"⟩, 6), (⟨"GooseCodex", "mixGeese", "(J)J"⟩, 2), (⟨"GooseCodex", "demandGoose", "(I)V"⟩, 2), (⟨"GooseCodex", "demandVisitor", "(I)V"⟩, 2), (⟨"GooseCodexModel", "fail", "(I)I"⟩, 9), (⟨"GooseCodexModel", "isGate", "(I)Z"⟩, 9), (⟨"GooseCodexModel", "put", "(III)V"⟩, 9), (⟨"GooseCodexModel", "let", "(III)V"⟩, 9), (⟨"GooseCodexModel", "isGoose", "(I)Z"⟩, 9), (⟨"GooseCodexModel", "isVisitor", "(I)Z"⟩, 9), (⟨"GooseCodexModel", "vi", "(II)I"⟩, 9), (⟨"GooseCodexModel", "isIn", "(I)Z"⟩, 9), (⟨"GooseCodexModel", "feed", "(II)V"⟩, 9), (⟨"GooseCodexModel", "go", "(II)I"⟩, 9), (⟨"GooseCodexModel", "inside", "()I"⟩, 9)]
theorem lw_r1 : ∀ q ∈ lw_privs_1, lw_okq q := List.forall_mem_cons.mpr ⟨lw_p0, List.forall_mem_cons.mpr ⟨lw_p1, List.forall_mem_cons.mpr ⟨lw_p2, List.forall_mem_cons.mpr ⟨lw_p3, List.forall_mem_cons.mpr ⟨lw_p4, List.forall_mem_cons.mpr ⟨lw_p5, List.forall_mem_cons.mpr ⟨lw_p6, List.forall_mem_cons.mpr ⟨lw_p7, List.forall_mem_cons.mpr ⟨lw_p8, List.forall_mem_cons.mpr ⟨lw_p9, List.forall_mem_cons.mpr ⟨lw_p10, List.forall_mem_cons.mpr ⟨lw_p11, List.forall_mem_cons.mpr ⟨lw_p12, List.forall_mem_cons.mpr ⟨lw_p13, List.forall_mem_cons.mpr ⟨lw_p14, List.forall_mem_cons.mpr ⟨lw_p15, fun _ h => absurd h List.not_mem_nil⟩⟩⟩⟩⟩⟩⟩⟩⟩⟩⟩⟩⟩⟩⟩⟩
theorem lw_p16 : lw_okq (⟨"GooseCodexModel", "beatsOn", "(I)V"⟩, 9) := ⟨⟨by decide +kernel, by decide +kernel⟩, List.mem_of_getElem? (i := 692) (by decide +kernel), List.mem_of_getElem? (i := 811) (by decide +kernel), List.mem_of_getElem? (i := 812) (by decide +kernel)⟩
theorem lw_p17 : lw_okq (⟨"GooseCodexModel", "beatOn", "()V"⟩, 9) := ⟨⟨by decide +kernel, by decide +kernel⟩, List.mem_of_getElem? (i := 692) (by decide +kernel), List.mem_of_getElem? (i := 815) (by decide +kernel), List.mem_of_getElem? (i := 816) (by decide +kernel)⟩
theorem lw_p18 : lw_okq (⟨"GooseCodexModel", "move", "(I)V"⟩, 9) := ⟨⟨by decide +kernel, by decide +kernel⟩, List.mem_of_getElem? (i := 692) (by decide +kernel), List.mem_of_getElem? (i := 819) (by decide +kernel), List.mem_of_getElem? (i := 820) (by decide +kernel)⟩
theorem lw_p19 : lw_okq (⟨"GooseCodexModel", "hiss", "(II)I"⟩, 9) := ⟨⟨by decide +kernel, by decide +kernel⟩, List.mem_of_getElem? (i := 692) (by decide +kernel), List.mem_of_getElem? (i := 823) (by decide +kernel), List.mem_of_getElem? (i := 824) (by decide +kernel)⟩
theorem lw_p20 : lw_okq (⟨"GooseCodexModel", "isAwake", "(II)Z"⟩, 9) := ⟨⟨by decide +kernel, by decide +kernel⟩, List.mem_of_getElem? (i := 692) (by decide +kernel), List.mem_of_getElem? (i := 827) (by decide +kernel), List.mem_of_getElem? (i := 828) (by decide +kernel)⟩
theorem lw_p21 : lw_okq (⟨"GooseCodexModel", "more", "(II)I"⟩, 9) := ⟨⟨by decide +kernel, by decide +kernel⟩, List.mem_of_getElem? (i := 692) (by decide +kernel), List.mem_of_getElem? (i := 831) (by decide +kernel), List.mem_of_getElem? (i := 832) (by decide +kernel)⟩
theorem lw_p22 : lw_okq (⟨"GooseCodexModel", "angriest", "(I)I"⟩, 9) := ⟨⟨by decide +kernel, by decide +kernel⟩, List.mem_of_getElem? (i := 692) (by decide +kernel), List.mem_of_getElem? (i := 835) (by decide +kernel), List.mem_of_getElem? (i := 836) (by decide +kernel)⟩
theorem lw_p23 : lw_okq (⟨"GooseCodexModel", "told", "(I)I"⟩, 9) := ⟨⟨by decide +kernel, by decide +kernel⟩, List.mem_of_getElem? (i := 692) (by decide +kernel), List.mem_of_getElem? (i := 846) (by decide +kernel), List.mem_of_getElem? (i := 847) (by decide +kernel)⟩
theorem lw_p24 : lw_okq (⟨"GooseCodexModel", "awake", "(I)I"⟩, 9) := ⟨⟨by decide +kernel, by decide +kernel⟩, List.mem_of_getElem? (i := 692) (by decide +kernel), List.mem_of_getElem? (i := 882) (by decide +kernel), List.mem_of_getElem? (i := 883) (by decide +kernel)⟩
theorem lw_p25 : lw_okq (⟨"GooseCodexModel", "loudest", "()I"⟩, 9) := ⟨⟨by decide +kernel, by decide +kernel⟩, List.mem_of_getElem? (i := 692) (by decide +kernel), List.mem_of_getElem? (i := 894) (by decide +kernel), List.mem_of_getElem? (i := 895) (by decide +kernel)⟩
theorem lw_p26 : lw_okq (⟨"GooseCodexModel", "goose", "(II)I"⟩, 9) := ⟨⟨by decide +kernel, by decide +kernel⟩, List.mem_of_getElem? (i := 692) (by decide +kernel), List.mem_of_getElem? (i := 906) (by decide +kernel), List.mem_of_getElem? (i := 907) (by decide +kernel)⟩
theorem lw_p27 : lw_okq (⟨"GooseCodexModel", "visitor", "(II)I"⟩, 9) := ⟨⟨by decide +kernel, by decide +kernel⟩, List.mem_of_getElem? (i := 692) (by decide +kernel), List.mem_of_getElem? (i := 922) (by decide +kernel), List.mem_of_getElem? (i := 923) (by decide +kernel)⟩
theorem lw_p28 : lw_okq (⟨"GooseCodexModel", "hissNow", "(I)I"⟩, 9) := ⟨⟨by decide +kernel, by decide +kernel⟩, List.mem_of_getElem? (i := 692) (by decide +kernel), List.mem_of_getElem? (i := 946) (by decide +kernel), List.mem_of_getElem? (i := 947) (by decide +kernel)⟩
theorem lw_p29 : lw_okq (⟨"GooseCodexModel", "dare", "(I)Z"⟩, 9) := ⟨⟨by decide +kernel, by decide +kernel⟩, List.mem_of_getElem? (i := 692) (by decide +kernel), List.mem_of_getElem? (i := 958) (by decide +kernel), List.mem_of_getElem? (i := 959) (by decide +kernel)⟩
theorem lw_p30 : lw_okq (⟨"GooseCodexModel", "until", "(I)I"⟩, 9) := ⟨⟨by decide +kernel, by decide +kernel⟩, List.mem_of_getElem? (i := 692) (by decide +kernel), List.mem_of_getElem? (i := 966) (by decide +kernel), List.mem_of_getElem? (i := 967) (by decide +kernel)⟩
theorem lw_p31 : lw_okq (⟨"GooseCodexModel", "keep", "()V"⟩, 9) := ⟨⟨by decide +kernel, by decide +kernel⟩, List.mem_of_getElem? (i := 692) (by decide +kernel), List.mem_of_getElem? (i := 970) (by decide +kernel), List.mem_of_getElem? (i := 971) (by decide +kernel)⟩
def lw_privs_2 : List (MethodName × Nat) := [(⟨"GooseCodexModel", "beatsOn", "(I)V"⟩, 9), (⟨"GooseCodexModel", "beatOn", "()V"⟩, 9), (⟨"GooseCodexModel", "move", "(I)V"⟩, 9), (⟨"GooseCodexModel", "hiss", "(II)I"⟩, 9), (⟨"GooseCodexModel", "isAwake", "(II)Z"⟩, 9), (⟨"GooseCodexModel", "more", "(II)I"⟩, 9), (⟨"GooseCodexModel", "angriest", "(I)I"⟩, 9), (⟨"GooseCodexModel", "told", "(I)I"⟩, 9), (⟨"GooseCodexModel", "awake", "(I)I"⟩, 9), (⟨"GooseCodexModel", "loudest", "()I"⟩, 9), (⟨"GooseCodexModel", "goose", "(II)I"⟩, 9), (⟨"GooseCodexModel", "visitor", "(II)I"⟩, 9), (⟨"GooseCodexModel", "hissNow", "(I)I"⟩, 9), (⟨"GooseCodexModel", "dare", "(I)Z"⟩, 9), (⟨"GooseCodexModel", "until", "(I)I"⟩, 9), (⟨"GooseCodexModel", "keep", "()V"⟩, 9)]
theorem lw_r2 : ∀ q ∈ lw_privs_2, lw_okq q := List.forall_mem_cons.mpr ⟨lw_p16, List.forall_mem_cons.mpr ⟨lw_p17, List.forall_mem_cons.mpr ⟨lw_p18, List.forall_mem_cons.mpr ⟨lw_p19, List.forall_mem_cons.mpr ⟨lw_p20, List.forall_mem_cons.mpr ⟨lw_p21, List.forall_mem_cons.mpr ⟨lw_p22, List.forall_mem_cons.mpr ⟨lw_p23, List.forall_mem_cons.mpr ⟨lw_p24, List.forall_mem_cons.mpr ⟨lw_p25, List.forall_mem_cons.mpr ⟨lw_p26, List.forall_mem_cons.mpr ⟨lw_p27, List.forall_mem_cons.mpr ⟨lw_p28, List.forall_mem_cons.mpr ⟨lw_p29, List.forall_mem_cons.mpr ⟨lw_p30, List.forall_mem_cons.mpr ⟨lw_p31, fun _ h => absurd h List.not_mem_nil⟩⟩⟩⟩⟩⟩⟩⟩⟩⟩⟩⟩⟩⟩⟩⟩
theorem lw_p32 : lw_okq (⟨"GooseCodexModel", "run", "(II)I"⟩, 9) := ⟨⟨by decide +kernel, by decide +kernel⟩, List.mem_of_getElem? (i := 692) (by decide +kernel), List.mem_of_getElem? (i := 975) (by decide +kernel), List.mem_of_getElem? (i := 976) (by decide +kernel)⟩
theorem lw_p33 : lw_okq (⟨"GooseCodexModel", "bringBack", "()V"⟩, 9) := ⟨⟨by decide +kernel, by decide +kernel⟩, List.mem_of_getElem? (i := 692) (by decide +kernel), List.mem_of_getElem? (i := 979) (by decide +kernel), List.mem_of_getElem? (i := 980) (by decide +kernel)⟩
theorem lw_p34 : lw_okq (⟨"GooseCodexModel", "toBribe", "(I)I"⟩, 9) := ⟨⟨by decide +kernel, by decide +kernel⟩, List.mem_of_getElem? (i := 692) (by decide +kernel), List.mem_of_getElem? (i := 995) (by decide +kernel), List.mem_of_getElem? (i := 996) (by decide +kernel)⟩
theorem lw_p35 : lw_okq (⟨"GooseCodexModel", "calmWanted", "(I)I"⟩, 9) := ⟨⟨by decide +kernel, by decide +kernel⟩, List.mem_of_getElem? (i := 692) (by decide +kernel), List.mem_of_getElem? (i := 1003) (by decide +kernel), List.mem_of_getElem? (i := 1004) (by decide +kernel)⟩
theorem lw_p36 : lw_okq (⟨"GooseCodexModel", "ranked", "(I)I"⟩, 9) := ⟨⟨by decide +kernel, by decide +kernel⟩, List.mem_of_getElem? (i := 692) (by decide +kernel), List.mem_of_getElem? (i := 1011) (by decide +kernel), List.mem_of_getElem? (i := 1012) (by decide +kernel)⟩
def lw_privs_3 : List (MethodName × Nat) := [(⟨"GooseCodexModel", "run", "(II)I"⟩, 9), (⟨"GooseCodexModel", "bringBack", "()V"⟩, 9), (⟨"GooseCodexModel", "toBribe", "(I)I"⟩, 9), (⟨"GooseCodexModel", "calmWanted", "(I)I"⟩, 9), (⟨"GooseCodexModel", "ranked", "(I)I"⟩, 9)]
theorem lw_r3 : ∀ q ∈ lw_privs_3, lw_okq q := List.forall_mem_cons.mpr ⟨lw_p32, List.forall_mem_cons.mpr ⟨lw_p33, List.forall_mem_cons.mpr ⟨lw_p34, List.forall_mem_cons.mpr ⟨lw_p35, List.forall_mem_cons.mpr ⟨lw_p36, fun _ h => absurd h List.not_mem_nil⟩⟩⟩⟩⟩
def lw_privs : List (MethodName × Nat) := lw_privs_1 ++ (lw_privs_2 ++ (lw_privs_3))
def lw_tbl : List Cond := k2_sels lw_privs ++ tables_1
theorem lw_privs_ok : ∀ q ∈ lw_privs, lw_okq q := by
  show ∀ q ∈ lw_privs_1 ++ (lw_privs_2 ++ (lw_privs_3)), lw_okq q
  exact List.forall_mem_append.mpr ⟨lw_r1, List.forall_mem_append.mpr ⟨lw_r2, lw_r3⟩⟩
/-- the streams that the claim lets the run draw from -/
abbrev lw_cs : List Choice := [Jvm.Choice.named "NaN.bits"]
theorem lw_bits : nanBits ∈ lw_cs := by first | decide | exact List.mem_cons_self | simp [lw_cs, nanBits]
-- ===== end of PART A; then your names; then what follows =====
end
section
/-! ===== BEGIN words of one list among another's, by their places ===== -/
theorem goodIn_r {big : List Cond} (ws : List Cond) (ps : List Nat) (hp : ws = ps.filterMap (fun i => big[i]?)) (h : ws.all goodWord = true) : GoodIn big ws := by
  intro w hw
  have h1 := List.all_eq_true.mp h w hw
  rw [hp] at hw
  obtain ⟨i, -, hi⟩ := List.mem_filterMap.mp hw
  have hm : w ∈ big := by first | exact List.mem_of_getElem? hi | exact List.getElem?_mem hi
  exact ⟨hm, good_of_word h1⟩
theorem goodIn_app {big a b : List Cond} (ha : GoodIn big a) (hb : GoodIn big b) : GoodIn big (a ++ b) := fun w h => (List.mem_append.mp h).elim (ha w) (hb w)
theorem goodIn_ca {big a b : List Cond} {c : Cond} (ha : GoodIn big (c :: a)) (hb : GoodIn big b) : GoodIn big (c :: (a ++ b)) := fun w h => (List.mem_cons.mp h).elim (fun e => ha w (List.mem_cons.mpr (Or.inl e))) (fun h => (List.mem_append.mp h).elim (fun h => ha w (List.mem_cons.mpr (Or.inr h))) (hb w))
theorem goodIn_sub {big ws : List Cond} (hm : ∀ w ∈ ws, w ∈ big) (h : ws.all goodWord = true) : GoodIn big ws := fun w hw => ⟨hm w hw, good_of_word (List.all_eq_true.mp h w hw)⟩
/-! ===== END ===== -/

/-! ===== BEGIN exceptions that leave a method, and their catching by the caller (launches without stack traces) ===== -/
section VXA
/-! The laws vx_back, vx_callV, vx_callS, vx_callSW, vx_throw0, vx_throwS follow proofs of the library, with one case more: JvmDerived/Free/Laws.lean (Back.of_free), Shelf42/LK1.lean (callV, callS), Shelf/KitTraced.lean (throwNew0V, throwNewS). -/
/-- where a method has thrown q: the class by its name, the cell, what was written, the world -/
def vx_T (XC : String → State → State → Prop) (st : State) (q : Addr) (t : State) (mc ms : Nat) (free : Addr → Prop) : Prop :=
  ∃ (E : String) (ce : Cell) (L : List Loc), XC E st t ∧ t.heap[q]? = some ce ∧ ce.vm = .none ∧ st.vm.findClass E = some ce.cls ∧ st.WarmedH t.vm ∧ st.sameButNew ({ t with vm := st.vm } : State) L mc ms ∧ ∀ z ∈ L, free z.base
def vx_Q (Qc : Array Value → State → Outcome → State → Prop) (XC : String → State → State → Prop) (mc ms : Nat) (free : Addr → Prop) : Array Value → State → Outcome → State → Prop := fun a st o t =>
  (Qc a st o t ∧ ∃ L, FrameEnd st o t L mc ms ∧ ∀ q ∈ L, free q.base) ∨ ∃ q, o = .threw q ∧ vx_T XC st q t mc ms free
/-- a callee that returns or throws -/
def vx_Met (l : Launch) (y : MethodName) (ws : List Cond) (rm : Room) (Pc : Array Value → State → Prop) (Qc : Array Value → State → Outcome → State → Prop) (XC : String → State → State → Prop) (mc ms : Nat) (free : Addr → Prop) : Prop :=
  MetFree l y (headSpec ws rm) Pc (fun _ _ _ _ _ => True) (vx_Q Qc XC mc ms free)
def vx_Post (XC : String → State → State → Prop) (mc ms : Nat) (free : Addr → Prop) : Pt → Array Value → Addr → Pt → Prop := fun A a q B =>
  ∃ (g : JFrame) (mk : MethodId) (t : State) (L : List Loc) (E : String) (ce : Cell), B.U.heap = t.heap ∧ B.U.vm = t.vm ∧ XC E (A.U.calling g mk a) t ∧ t.heap[q]? = some ce ∧ ce.vm = .none ∧ A.U.vm.findClass E = some ce.cls ∧ B.locs = A.locs ++ L ∧ (∀ z ∈ L, free z.base) ∧ B.cells = A.cells + mc ∧ B.slots = A.slots + ms
def vx_Back (l : Launch) (R : Room) (p : Program) (e : Env) (below : List Frame) (s : State) (sargs : Array Value) (y : MethodName) (len W9 : Nat)
    (Pre : Pt → Array Value → Prop) (Post : Pt → Array Value → Option Value → Pt → Prop) (PostX : Pt → Array Value → Addr → Pt → Prop) : Prop :=
  ∀ (m : MethodId) (meth : Method) (c : Code) (A : Pt) (g : JFrame) (ig : Instr) (mk : MethodId) (a : Array Value),
    Stand p l e R s m sargs below meth c A.U A.locs A.cells A.slots → g.method = m → g.locals.size = c.maxLocals → decode c.code g.pc = .ok (ig, len) →
    2 * g.monitorRoom + (g.stack.map fun v => v.category).sum ≤ W9 → A.U.methodNamed? y = some mk → Pre A a →
    (∃ (v : Option Value) (B : Pt), Stand p l e R s m sargs below meth c B.U B.locs B.cells B.slots ∧ Post A a v B ∧
      Steps p.tables e below (doInvoke e (A.U.setTop g) [] mk a).1 (B.U.setTop { g with pc := g.pc + len, stack := v.toList ++ g.stack })) ∨
    (∃ (q : Addr) (B : Pt), Stand p l e R s m sargs below meth c B.U B.locs B.cells B.slots ∧ PostX A a q B ∧
      Steps p.tables e below (doInvoke e (A.U.setTop g) [] mk a).1 ((B.U.setTop g).pushFrame (.throwing q)))
section Payer
variable {l : Launch} {R : Room} {p : Program} {e : Env} {below : List Frame} {s : State} {sargs : Array Value} {y : MethodName} {len W9 : Nat}
theorem vx_back {ws : List Cond} {rm : Room} {Pc : Array Value → State → Prop} {Qc : Array Value → State → Outcome → State → Prop} {XC : String → State → State → Prop} {mc ms : Nat} {free : Addr → Prop} {bytes : ByteArray} {maxL : Nat} {ret : Option FieldType}
    (hM : vx_Met l y ws rm Pc Qc XC mc ms free) (hblind : FrameBlind Pc) (hrc : rm.cells = mc) (hrs : rm.slots = ms)
    (hframes : rm.frames + 1 ≤ R.frames) (hlocals : W9 + (maxL + 11) + rm.locals ≤ R.locals)
    (hws : ∀ w ∈ ws, ∀ a' U, s.WarmedH U.vm → w.before a' U = true) (hcode : Cond.code y bytes maxL ret ∈ ws) (hinit : ∀ a' U, s.WarmedH U.vm → (Cond.initialized y.cls).before a' U = true) :
    vx_Back l R p e below s sargs y len W9 (PreOf R mc ms Pc) (PostOf Qc mc ms free) (vx_Post XC mc ms free) := by
  intro m meth c A g ig mk a X hg hsize hdg hW hn hp
  have h1 : (headSpec ws rm).pre.before a A.U = true := atoms_intro fun w hw => hws w hw _ _ X.warmed
  have h2 : (Cond.code y bytes maxL ret).before a A.U = true := hws _ hcode _ _ X.warmed
  have h3 : (Cond.initialized y.cls).before a A.U = true := hinit _ _ X.warmed
  have h4 : A.cells + (headSpec ws rm).room.cells ≤ R.cells := by rw [show (headSpec ws rm).room.cells = mc from hrc]; exact hp.1
  have h5 : A.slots + (headSpec ws rm).room.slots ≤ R.slots := by rw [show (headSpec ws rm).room.slots = ms from hrs]; exact hp.2.1
  have hPc : Pc a (A.U.calling g mk a) := hblind _ _ _ _ hp.2.2
  obtain ⟨U, Ls, c0, s0⟩ := A
  dsimp only [Pt.U, Pt.locs, Pt.cells, Pt.slots] at h1 h2 h3 h4 h5 X hn hPc ⊢
  obtain ⟨methY, cY, hmY, hcY, -, hlY, -, -, -, -⟩ := Cond.code_spec hn h2
  obtain ⟨kY, hkY, -⟩ := className_of_methodNamed hn
  have hinitY : kY.init = .initialized := Cond.initialized_spec (findClass_of_methodNamed hn) hkY h3
  have h : At U g.method c below := by rw [hg]; exact X.here
  have hlocals9 : W9 + (maxL + 11) + (headSpec ws rm).room.locals ≤ R.locals := hlocals
  have happ : (headSpec ws rm).appliesLoose y e.platform (U.calling g mk a) = true :=
    Spec.appliesLoose_calling (g := g) h hdg hn hkY hinitY
      (X.room_calling (g := g) (R' := (headSpec ws rm).room) hsize hmY hcY hframes (by rw [hlY]; omega) h4 h5) h1
  obtain ⟨mid, hmid⟩ := h.above
  have hfr : (U.setTop g).frames = (.java g :: mid) ++ below := by rw [State.frames_setTop' g h.top, hmid]; rfl
  obtain ⟨o, s₂, hsteps, -, hend, hq⟩ := Steps.callFree hM p X.admits X.cas X.clock (acts := []) hfr happ hPc trivial
  have hq' : vx_Q Qc XC mc ms free a (U.calling g mk a) o s₂ := hq
  rw [State.frames_setTop' g h.top] at hend
  obtain ⟨g₀, hg0⟩ := Option.isSome_iff_exists.mp h.top
  obtain ⟨r, hr⟩ := State.topJava?_eq_some.mp hg0
  have hr' : (({ U with heap := s₂.heap, slotsUsed := s₂.slotsUsed } : State).setVm s₂.vm).frames = .java g₀ :: r := hr
  rcases hq' with ⟨hqc, L, hfe, hL⟩ | ⟨q, rfl, E, ce, L, hx, hce, hcv, hcl, hW₂, hsm, hL⟩
  · obtain ⟨⟨v, rfl⟩, hW₂, e2, q2, q3, q4, q5, q6⟩ := id hfe
    have e3 : s₂ = ({ (U.calling g mk a).setFrames s₂.frames with heap := s₂.heap, slotsUsed := s₂.slotsUsed } : State).setVm s₂.vm := by
      have : s₂ = ({ s₂ with vm := (U.calling g mk a).vm } : State).setVm s₂.vm := rfl
      rw [e2] at this
      exact this
    obtain ⟨c₂, i₂, len₂, hc₂, hd₂, hf₂⟩ := hend
    have hW' : U.WarmedH s₂.vm := hW₂
    have hcc : c₂ = c := by
      have h1 : s₂.code? g.method = U.code? g.method := by
        rw [State.code?_eq, State.code?_eq, hW'.alike.method?]
      exact Option.some.inj (hc₂.symm.trans (h1.trans h.code))
    subst hcc
    have hlen : len₂ = len := by rw [hdg] at hd₂; cases hd₂; rfl
    subst hlen
    have hs₂ : s₂ = (({ U with heap := s₂.heap, slotsUsed := s₂.slotsUsed } : State).setVm s₂.vm).setTop { g with pc := g.pc + len₂, stack := v.toList ++ g.stack } := by
      refine e3.trans ?_
      rw [hf₂, State.calling_eq h.top, State.setFrames_setFrames, State.setTop_of_frames _ hr', hr]
      rfl
    have hsame : U.sameButNew ({ U with heap := s₂.heap, slotsUsed := s₂.slotsUsed } : State) L mc ms := by
      refine ⟨?_, q2, q3, q4, q5, q6⟩
      obtain ⟨t, ht, -⟩ := State.frames_cons hr
      show ({ U with heap := s₂.heap, slotsUsed := s₂.slotsUsed } : State) = { U.setFrames U.frames with heap := s₂.heap, slotsUsed := s₂.slotsUsed }
      rw [State.setFrames_self ht]
    subst hg
    refine Or.inl ⟨v, ⟨(({ U with heap := s₂.heap, slotsUsed := s₂.slotsUsed } : State).setVm s₂.vm), Ls ++ L, c0 + mc, s0 + ms⟩,
      ⟨X.admits, X.cas, X.clock, X.frames, X.room, X.hears, X.method, X.code, (X.here.setHeapUsed s₂.heap s₂.slotsUsed).setVm hW'.alike, X.tail, State.WarmedH.trans X.warmed hW', X.limits, X.bytes, X.same.trans (hsame.setVm s.vm)⟩,
      ⟨g, mk, s₂, L, rfl, rfl, hqc, rfl, hL, rfl, rfl⟩, ?_⟩
    show Steps p.tables e below _ ((({ U with heap := s₂.heap, slotsUsed := s₂.slotsUsed } : State).setVm s₂.vm).setTop { g with pc := g.pc + len₂, stack := v.toList ++ g.stack })
    rw [← hs₂]
    exact hsteps
  · obtain ⟨e2, q2, q3, q4, q5, q6⟩ := id hsm
    have e3 : s₂ = ({ (U.calling g mk a).setFrames s₂.frames with heap := s₂.heap, slotsUsed := s₂.slotsUsed } : State).setVm s₂.vm := by
      have : s₂ = ({ s₂ with vm := (U.calling g mk a).vm } : State).setVm s₂.vm := rfl
      rw [e2] at this
      exact this
    have hf₂ : s₂.frames = .throwing q :: .java g :: U.frames.tail := hend
    have hW' : U.WarmedH s₂.vm := hW₂
    have hs₂ : s₂ = ((({ U with heap := s₂.heap, slotsUsed := s₂.slotsUsed } : State).setVm s₂.vm).setTop g).pushFrame (.throwing q) := by
      refine e3.trans ?_
      rw [hf₂, State.calling_eq h.top, State.setFrames_setFrames, State.pushFrame, State.frames_setTop _ hr', State.setTop_of_frames _ hr', State.setFrames_setFrames, hr]
      rfl
    have hsame : U.sameButNew ({ U with heap := s₂.heap, slotsUsed := s₂.slotsUsed } : State) L mc ms := by
      refine ⟨?_, q2, q3, q4, q5, q6⟩
      obtain ⟨t, ht, -⟩ := State.frames_cons hr
      show ({ U with heap := s₂.heap, slotsUsed := s₂.slotsUsed } : State) = { U.setFrames U.frames with heap := s₂.heap, slotsUsed := s₂.slotsUsed }
      rw [State.setFrames_self ht]
    subst hg
    refine Or.inr ⟨q, ⟨(({ U with heap := s₂.heap, slotsUsed := s₂.slotsUsed } : State).setVm s₂.vm), Ls ++ L, c0 + mc, s0 + ms⟩,
      ⟨X.admits, X.cas, X.clock, X.frames, X.room, X.hears, X.method, X.code, (X.here.setHeapUsed s₂.heap s₂.slotsUsed).setVm hW'.alike, X.tail, State.WarmedH.trans X.warmed hW', X.limits, X.bytes, X.same.trans (hsame.setVm s.vm)⟩,
      ⟨g, mk, s₂, L, E, ce, rfl, rfl, hx, hce, hcv, hcl, rfl, hL, rfl, rfl⟩, ?_⟩
    show Steps p.tables e below _ (((({ U with heap := s₂.heap, slotsUsed := s₂.slotsUsed } : State).setVm s₂.vm).setTop g).pushFrame (.throwing q))
    rw [← hs₂]
    exact hsteps
end Payer
section Calls
variable {p : Program} {l : Launch} {e : Env} {R : Room} {s : State} {m : MethodId} {args : Array Value} {below : List Frame} {meth : Method} {c : Code} {T : State} {locs : List Loc} {cells slots : Nat}
theorem vx_callV (X : Stand p l e R s m args below meth c T locs cells slots) (hexec : p.tables.exec = Jvm.exec) {own C : String} {index : Nat} {y : MethodName} {bytes : ByteArray} {maxL : Nat} {ret : Option FieldType}
    (hown : s.vm.findClass own = some m.cls) (hlink : (Cond.methodLink own index y).before args s = true) (hinst : (Cond.instanceMethod y).before args s = true) (hsel : (Cond.selects C y y).before args s = true)
    (hcode : (Cond.code y bytes maxL ret).before args s = true) (hy : y.cls ≠ "java/lang/invoke/MethodHandle" ∧ y.cls ≠ "java/lang/invoke/VarHandle")
    {W9 : Nat} {Pre : Pt → Array Value → Prop} {Post : Pt → Array Value → Option Value → Pt → Prop} {PostX : Pt → Array Value → Addr → Pt → Prop} (hK : vx_Back l R p e below s args y 3 W9 Pre Post PostX)
    {b : Addr} {cellB : Cell} (hcell : T.heap[b]? = some cellB) (hobj : cellB.vm.isStatics = false) (hcls : s.vm.findClass C = some cellB.cls)
    {g : JFrame} (hg : g.method = m) (hsize : g.locals.size = c.maxLocals) {argsL rest : List Value} (hlen : ∀ sig, parseMethodDescriptor y.desc = some sig → argsL.length = sig.parameters.length)
    (hstack : g.stack = argsL.reverse ++ .ref b :: rest) (hW : 2 * g.monitorRoom + (rest.map fun v => v.category).sum ≤ W9) (hdg : decode c.code g.pc = .ok (.invokevirtual index, 3))
    (hpre : ∀ vm₁, s.WarmedH vm₁ → Pre ⟨T.setVm vm₁, locs, cells, slots⟩ (Value.ref b :: argsL).toArray) :
    (∃ (v : Option Value) (vm₁ : Vm) (B : Pt), s.WarmedH vm₁ ∧ Stand p l e R s m args below meth c B.U B.locs B.cells B.slots ∧ Post ⟨T.setVm vm₁, locs, cells, slots⟩ (Value.ref b :: argsL).toArray v B ∧
      ∀ target, Steps p.tables e below (B.U.setTop { g with pc := g.pc + 3, stack := v.toList ++ rest }) target → Steps p.tables e below (T.setTop g) target) ∨
    (∃ (q : Addr) (vm₁ : Vm) (B : Pt), s.WarmedH vm₁ ∧ Stand p l e R s m args below meth c B.U B.locs B.cells B.slots ∧ PostX ⟨T.setVm vm₁, locs, cells, slots⟩ (Value.ref b :: argsL).toArray q B ∧
      Steps p.tables e below (T.setTop g) ((B.U.setTop { g with stack := rest }).pushFrame (.throwing q))) := by
  obtain ⟨mk, methM, hnamed, hmethM, hstM, habM⟩ := Cond.instanceMethod_spec hinst
  obtain ⟨methM', cM, hmethM', -, -, -, -, -, -, hsigM⟩ := Cond.code_spec hnamed hcode
  cases hmethM.symm.trans hmethM'
  obtain ⟨c2, r2, m2, q1, q2, q3, q4, kP, hkP, hkPi⟩ := Cond.selects_spec hsel
  cases hcls.symm.trans q1
  cases (State.methodFound?_of_named hnamed hy).symm.trans q2
  cases hnamed.symm.trans q3
  have hselP : selectMethod e.platform s.vm cellB.cls mk = .method mk := by rw [Launch.admits_selectMethod X.admits]; exact q4
  obtain ⟨vm₁, X₁, hstep₁⟩ := X.invokevirtual hexec hown hlink hnamed hmethM hstM hkP hkPi hy (a := b) (cell := cellB) hcell
    (fun z h => by rw [h] at hobj; cases hobj) hselP hmethM habM hkP hkPi (g := g) hg (argsL := argsL) (rest := rest) (hlen _ hsigM) hstack hdg
  rcases hK m meth c ⟨T.setVm vm₁, locs, cells, slots⟩ { g with stack := rest } (.invokevirtual index) mk (Value.ref b :: argsL).toArray X₁ hg hsize hdg hW (X₁.named hnamed) (hpre vm₁ X₁.warmed) with ⟨v, B, X', hpost, hsteps⟩ | ⟨q, B, X', hpost, hsteps⟩
  · exact Or.inl ⟨v, vm₁, B, X₁.warmed, X', hpost, fun target h => hstep₁ _ fun acts => by rw [doInvoke_state]; exact hsteps.trans h⟩
  · exact Or.inr ⟨q, vm₁, B, X₁.warmed, X', hpost, hstep₁ _ fun acts => by rw [doInvoke_state]; exact hsteps⟩
theorem vx_callS (X : Stand p l e R s m args below meth c T locs cells slots) (hexec : p.tables.exec = Jvm.exec) {own : String} {index : Nat} {y : MethodName} {bytes : ByteArray} {maxL : Nat} {ret : Option FieldType}
    (hown : s.vm.findClass own = some m.cls) (hlink : (Cond.methodLink own index y).before args s = true) (hstat : (Cond.static y).before args s = true) (hinit : (Cond.initialized y.cls).before args s = true)
    (hcode : (Cond.code y bytes maxL ret).before args s = true) (hy : y.cls ≠ "java/lang/invoke/MethodHandle" ∧ y.cls ≠ "java/lang/invoke/VarHandle")
    {W9 : Nat} {Pre : Pt → Array Value → Prop} {Post : Pt → Array Value → Option Value → Pt → Prop} {PostX : Pt → Array Value → Addr → Pt → Prop} (hK : vx_Back l R p e below s args y 3 W9 Pre Post PostX)
    {g : JFrame} (hg : g.method = m) (hsize : g.locals.size = c.maxLocals) {argsL rest : List Value} (hlen : ∀ sig, parseMethodDescriptor y.desc = some sig → argsL.length = sig.parameters.length)
    (hstack : g.stack = argsL.reverse ++ rest) (hW : 2 * g.monitorRoom + (rest.map fun v => v.category).sum ≤ W9) (hdg : decode c.code g.pc = .ok (.invokestatic index, 3))
    (hpre : ∀ vm₁, s.WarmedH vm₁ → Pre ⟨T.setVm vm₁, locs, cells, slots⟩ argsL.toArray) :
    (∃ (v : Option Value) (vm₁ : Vm) (B : Pt), s.WarmedH vm₁ ∧ Stand p l e R s m args below meth c B.U B.locs B.cells B.slots ∧ Post ⟨T.setVm vm₁, locs, cells, slots⟩ argsL.toArray v B ∧
      ∀ target, Steps p.tables e below (B.U.setTop { g with pc := g.pc + 3, stack := v.toList ++ rest }) target → Steps p.tables e below (T.setTop g) target) ∨
    (∃ (q : Addr) (vm₁ : Vm) (B : Pt), s.WarmedH vm₁ ∧ Stand p l e R s m args below meth c B.U B.locs B.cells B.slots ∧ PostX ⟨T.setVm vm₁, locs, cells, slots⟩ argsL.toArray q B ∧
      Steps p.tables e below (T.setTop g) ((B.U.setTop { g with stack := rest }).pushFrame (.throwing q))) := by
  obtain ⟨mk, hnamed⟩ := Cond.code_named hcode
  obtain ⟨methM, cM, hmethM, -, -, -, -, -, -, hsigM⟩ := Cond.code_spec hnamed hcode
  have hstatic : methM.isStatic = true := Cond.static_spec hnamed hmethM hstat
  obtain ⟨kP, hkP, -⟩ := className_of_methodNamed hnamed
  have hinitP : kP.init = .initialized := Cond.initialized_spec (findClass_of_methodNamed hnamed) hkP hinit
  obtain ⟨vm₁, X₁, hstep₁⟩ := X.invokestatic hexec hown hlink hnamed hmethM hstatic hkP hinitP hy (g := g) hg (argsL := argsL) (rest := rest) (hlen _ hsigM) hstack hdg
  rcases hK m meth c ⟨T.setVm vm₁, locs, cells, slots⟩ { g with stack := rest } (.invokestatic index) mk argsL.toArray X₁ hg hsize hdg hW (X₁.named hnamed) (hpre vm₁ X₁.warmed) with ⟨v, B, X', hpost, hsteps⟩ | ⟨q, B, X', hpost, hsteps⟩
  · exact Or.inl ⟨v, vm₁, B, X₁.warmed, X', hpost, fun target h => hstep₁ _ fun acts => by rw [doInvoke_state]; exact hsteps.trans h⟩
  · exact Or.inr ⟨q, vm₁, B, X₁.warmed, X', hpost, hstep₁ _ fun acts => by rw [doInvoke_state]; exact hsteps⟩
end Calls
theorem vx_cls {s : State} {T : State} {vm₁ : Vm} {E : String} {k : ClassId} (hW : s.WarmedH vm₁) (h : (T.setVm vm₁).vm.findClass E = some k) : s.vm.findClass E = some k := by
  have h1 : vm₁.findClass E = some k := h
  rw [hW.alike.findClass] at h1
  exact h1
/-- the method's frame g, with q thrown over it -/
def vx_W (p : Program) (l : Launch) (e : Env) (R : Room) (s : State) (m : MethodId) (args : Array Value) (below : List Frame) (meth : Method) (c : Code) (H : Heap) (locs : List Loc) (cells slots : Nat) (Q : State → Prop) (g : JFrame) (q : Addr) : Prop :=
  ∀ T : State, T.heap = H → Stand p l e R s m args below meth c T locs cells slots → ∃ t, Steps p.tables e below ((T.setTop g).pushFrame (.throwing q)) t ∧ Q t
def vx_Run (p : Program) (l : Launch) (e : Env) (R : Room) (s : State) (m : MethodId) (args : Array Value) (below : List Frame) (meth : Method) (c : Code) (H : Heap) (locs : List Loc) (cells slots mc ms : Nat) (g : JFrame) (rest : List Value) (Qa : State → Outcome → State → Prop) (XC : String → State → State → Prop) (free : Addr → Prop) : Prop :=
  ∀ T : State, T.heap = H → Stand p l e R s m args below meth c T locs cells slots →
    (∃ (v : Option Value) (st₀ t T' : State) (L : List Loc), st₀.heap = H ∧ Stand p l e R s m args below meth c T' (locs ++ L) (cells + mc) (slots + ms) ∧ (∀ q ∈ L, free q.base) ∧ T'.heap = t.heap ∧ T'.vm = t.vm ∧ Qa st₀ (.returned v) t ∧
      Goes p e below T g T' { g with pc := g.pc + 3, stack := v.toList ++ rest }) ∨
    (∃ (q : Addr) (st₀ t T' : State) (L : List Loc) (E : String) (ce : Cell), st₀.heap = H ∧ Stand p l e R s m args below meth c T' (locs ++ L) (cells + mc) (slots + ms) ∧ (∀ z ∈ L, free z.base) ∧ T'.heap = t.heap ∧ T'.vm = t.vm ∧ XC E st₀ t ∧ t.heap[q]? = some ce ∧ ce.vm = .none ∧ s.vm.findClass E = some ce.cls ∧
      Steps p.tables e below (T.setTop g) ((T'.setTop { g with stack := rest }).pushFrame (.throwing q)))
def vx_X {S : Type} (px : S → Prop) (B : String → S → State → Prop) (A : Nat → Prop) : String → State → State → Prop := fun E st t => ∃ u : S, px u ∧ B E u t ∧ va_F A st t
section Runs
variable {p : Program} {l : Launch} {e : Env} {R : Room} {s : State} {m : MethodId} {args : Array Value} {below : List Frame} {meth : Method} {c : Code} {H : Heap} {locs : List Loc} {cells slots : Nat}
variable {y : MethodName} {bytes cc : ByteArray} {maxL nL mc ms n index : Nat} {ret : Option FieldType} {ws : List Cond} {rm : Room} {Pc : Array Value → State → Prop} {Qc : Array Value → State → Outcome → State → Prop} {XC : String → State → State → Prop} {free : Addr → Prop} {Ts : List Cond} {own C : String} {b : Addr} {As rest : List Value} {g : JFrame}
theorem vx_callBack (cb : CallB R s args own index y bytes maxL ret ws rm mc ms n) (hM : vx_Met l y ws rm Pc Qc XC mc ms free) (hbl : FrameBlind Pc) : vx_Back l R p e below s args y 3 8 (PreOf R mc ms Pc) (PostOf Qc mc ms free) (vx_Post XC mc ms free) := by
  obtain ⟨hrc, hrs, hfr, hlo, hws, hcw, -, hini, -⟩ := cb
  exact vx_back (bytes := bytes) (maxL := maxL) (ret := ret) hM hbl hrc hrs hfr hlo hws hcw (fun a' U hW => word_at hW (Or.inl (by first | rfl | simp [Cond.onTables, Cond.keeps, Cond.steady])) hini)
theorem vx_runV (S : CallFix p m c cc nL s args Ts own) (hM : vx_Met l y ws rm Pc Qc XC mc ms free) (cw : CallW R s args own C index y bytes maxL ret ws rm mc ms n) (hp : PreV s H C b Pc As)
    (hg : g.method = m) (hn : As.length = n) (hsize : g.locals.size = nL) (hstack : g.stack = As.reverse ++ .ref b :: rest) (hW : 2 * g.monitorRoom + (rest.map fun v => v.category).sum ≤ 8) (hdg : decode cc g.pc = .ok (.invokevirtual index, 3)) (hf : cells + mc ≤ R.cells ∧ slots + ms ≤ R.slots) :
    vx_Run p l e R s m args below meth c H locs cells slots mc ms g rest (Qc (Value.ref b :: As).toArray) XC free := by
  have hK : vx_Back l R p e below s args y 3 8 (PreOf R mc ms Pc) (PostOf Qc mc ms free) (vx_Post XC mc ms free) := vx_callBack cw.1 hM hp.1
  obtain ⟨⟨-, -, -, -, -, -, hcode, -, hy, hlen, hl⟩, hin, hse⟩ := cw
  obtain ⟨hx, hb, hml, ho, -⟩ := S
  obtain ⟨-, ⟨cellB, hcB, hoB, hclB⟩, hPc⟩ := hp
  intro T hT X
  rcases vx_callV X hx (C := C) (bytes := bytes) (maxL := maxL) (ret := ret) ho hl hin hse hcode hy hK (by rw [hT]; exact hcB) hoB hclB hg (hsize.trans hml.symm) (argsL := As) (rest := rest) (fun sig h => hn.trans (hlen sig h)) hstack hW (by rw [hb]; exact hdg)
    (fun vm₁ hW₁ => ⟨hf.1, hf.2, hPc (T.setVm vm₁) hT hW₁⟩) with ⟨v, vm₁, ⟨U', l2, c2, s2⟩, hW₁, X', ⟨g', mk, t, L, e1, e2, hq, h1, hL, h2, h3⟩, st⟩ | ⟨q, vm₁, ⟨U', l2, c2, s2⟩, hW₁, X', ⟨g', mk, t, L, E, ce, e1, e2, hq, hce, hcv, hcl, h1, hL, h2, h3⟩, st⟩
  · dsimp only [Pt.U, Pt.locs, Pt.cells, Pt.slots] at X' e1 e2 h1 h2 h3 st
    subst h1; subst h2; subst h3
    exact Or.inl ⟨v, (T.setVm vm₁).calling g' mk (Value.ref b :: As).toArray, t, U', L, hT, X', hL, e1, e2, hq, st⟩
  · dsimp only [Pt.U, Pt.locs, Pt.cells, Pt.slots] at X' e1 e2 h1 h2 h3 st hcl
    subst h1; subst h2; subst h3
    exact Or.inr ⟨q, (T.setVm vm₁).calling g' mk (Value.ref b :: As).toArray, t, U', L, E, ce, hT, X', hL, e1, e2, hq, hce, hcv, vx_cls hW₁ hcl, st⟩
theorem vx_runS (S : CallFix p m c cc nL s args Ts own) (hM : vx_Met l y ws rm Pc Qc XC mc ms free) (cw : CallB R s args own index y bytes maxL ret ws rm mc ms n ∧ (Cond.static y).before args s = true) (hp : PreS s H Pc As)
    (hg : g.method = m) (hn : As.length = n) (hsize : g.locals.size = nL) (hstack : g.stack = As.reverse ++ rest) (hW : 2 * g.monitorRoom + (rest.map fun v => v.category).sum ≤ 8) (hdg : decode cc g.pc = .ok (.invokestatic index, 3)) (hf : cells + mc ≤ R.cells ∧ slots + ms ≤ R.slots) :
    vx_Run p l e R s m args below meth c H locs cells slots mc ms g rest (Qc As.toArray) XC free := by
  have hK : vx_Back l R p e below s args y 3 8 (PreOf R mc ms Pc) (PostOf Qc mc ms free) (vx_Post XC mc ms free) := vx_callBack cw.1 hM hp.1
  obtain ⟨⟨-, -, -, -, -, -, hcode, hini, hy, hlen, hl⟩, hstt⟩ := cw
  obtain ⟨hx, hb, hml, ho, -⟩ := S
  intro T hT X
  rcases vx_callS X hx (bytes := bytes) (maxL := maxL) (ret := ret) ho hl hstt hini hcode hy hK hg (hsize.trans hml.symm) (argsL := As) (rest := rest) (fun sig h => hn.trans (hlen sig h)) hstack hW (by rw [hb]; exact hdg)
    (fun vm₁ hW₁ => ⟨hf.1, hf.2, hp.2 (T.setVm vm₁) hT hW₁⟩) with ⟨v, vm₁, ⟨U', l2, c2, s2⟩, hW₁, X', ⟨g', mk, t, L, e1, e2, hq, h1, hL, h2, h3⟩, st⟩ | ⟨q, vm₁, ⟨U', l2, c2, s2⟩, hW₁, X', ⟨g', mk, t, L, E, ce, e1, e2, hq, hce, hcv, hcl, h1, hL, h2, h3⟩, st⟩
  · dsimp only [Pt.U, Pt.locs, Pt.cells, Pt.slots] at X' e1 e2 h1 h2 h3 st
    subst h1; subst h2; subst h3
    exact Or.inl ⟨v, (T.setVm vm₁).calling g' mk As.toArray, t, U', L, hT, X', hL, e1, e2, hq, st⟩
  · dsimp only [Pt.U, Pt.locs, Pt.cells, Pt.slots] at X' e1 e2 h1 h2 h3 st hcl
    subst h1; subst h2; subst h3
    exact Or.inr ⟨q, (T.setVm vm₁).calling g' mk As.toArray, t, U', L, E, ce, hT, X', hL, e1, e2, hq, hce, hcv, vx_cls hW₁ hcl, st⟩
end Runs
section Rows
variable {p : Program} {l : Launch} {e : Env} {R : Room} {s : State} {m : MethodId} {args : Array Value} {below : List Frame} {meth : Method} {c : Code} {H : Heap} {locs : List Loc} {cells slots : Nat} {Q : State → Prop}
variable {mc ms : Nat} {free : Addr → Prop} {A0 A1 : Nat → Prop} {H0 : Heap} {a : Array Value} {pc : Nat} {ls : Array Slot} {st0 rest : List Value}
theorem vx_keep {st₀ t T' : State} {L : List Loc} (h0 : st₀.heap = H) (e1 : T'.heap = t.heap) (hS : va_S A0 H0 H locs) (hA : ∀ q, q < H.size → A1 q → A0 q) (hf : ∀ q, free q → A0 q) (hL : ∀ q ∈ L, free q.base) (hF : va_F A1 st₀ t) :
    H.size ≤ T'.heap.size ∧ (∀ q : Nat, q < H.size → ¬ A1 q → T'.heap[q]? = H[q]?) ∧ va_S A0 H0 T'.heap (locs ++ L) := by
  obtain ⟨hz, hk⟩ := hF
  rw [h0] at hz hk
  exact ⟨by rw [e1]; exact hz, fun q h1 h2 => by rw [e1]; exact hk q h1 h2,
    ⟨Nat.le_trans hS.1 (by rw [e1]; exact hz), fun q h1 h2 => by rw [e1, hk q (Nat.lt_of_lt_of_le h1 hS.1) (fun z => h2 (hA q (Nat.lt_of_lt_of_le h1 hS.1) z))]; exact hS.2.1 q h1 h2, fun q hq => by
      rcases List.mem_append.mp hq with h | h
      · exact hS.2.2 q h
      · exact hf _ (hL q h)⟩⟩
theorem vx_calli {S SX : Type} {post : Int32 → S → Prop} {px : SX → Prop} {B : S → State → Prop} {BX : String → SX → State → Prop} {AX : Nat → Prop} (hr : vx_Run p l e R s m args below meth c H locs cells slots mc ms (F0 m pc ls st0) rest (va_Qi post B A1 a) (vx_X px BX AX) free) (hS : va_S A0 H0 H locs) (hA : ∀ q, q < H.size → A1 q → A0 q) (hf : ∀ q, free q → A0 q) (hAX : ∀ q, q < H.size → AX q → A0 q)
    (kx : ∀ (E : String) (ce : Cell) (q9 : Addr) (u : SX) (t : State) (H1 : Heap) (locs1 : List Loc), t.heap = H1 → s.vm.Alike t.vm → px u → BX E u t → H.size ≤ H1.size → (∀ q : Nat, q < H.size → ¬ AX q → H1[q]? = H[q]?) → va_S A0 H0 H1 locs1 → H1[q9]? = some ce → ce.vm = .none → s.vm.findClass E = some ce.cls → vx_W p l e R s m args below meth c H1 locs1 (cells + mc) (slots + ms) Q (F0 m pc ls rest) q9)
    (kk : ∀ (r : Int32) (u : S) (t : State) (H1 : Heap) (locs1 : List Loc), t.heap = H1 → s.vm.Alike t.vm → post r u → B u t → H.size ≤ H1.size → (∀ q : Nat, q < H.size → ¬ A1 q → H1[q]? = H[q]?) → va_S A0 H0 H1 locs1 → W p l e R s m args below meth c H1 locs1 (cells + mc) (slots + ms) Q (F0 m (pc + 3) ls (.int r :: rest))) : W p l e R s m args below meth c H locs cells slots Q (F0 m pc ls st0) := by
  intro T hT X
  rcases hr T hT X with ⟨v, st₀, t, T', L, h0, X', hL, e1, e2, ⟨⟨r, u, hv, hp, hb⟩, hF⟩, st⟩ | ⟨q, st₀, t, T', L, E, ce, h0, X', hL, e1, e2, ⟨u, hp, hb, hF⟩, hce, hcv, hcl, st⟩
  · cases hv
    obtain ⟨k1, k2, k3⟩ := vx_keep h0 e1 hS hA hf hL hF
    obtain ⟨t2, a1, b1⟩ := kk r u t T'.heap (locs ++ L) e1.symm (by rw [← e2]; exact X'.warmed.alike) hp hb k1 k2 k3 T' rfl X'
    exact ⟨t2, st t2 a1, b1⟩
  · obtain ⟨k1, k2, k3⟩ := vx_keep h0 e1 hS hAX hf hL hF
    obtain ⟨t2, a1, b1⟩ := kx E ce q u t T'.heap (locs ++ L) e1.symm (by rw [← e2]; exact X'.warmed.alike) hp hb k1 k2 k3 (by rw [e1]; exact hce) hcv hcl T' rfl X'
    exact ⟨t2, st.trans a1, b1⟩
theorem vx_calll {S SX : Type} {post : Int64 → S → Prop} {px : SX → Prop} {B : S → State → Prop} {BX : String → SX → State → Prop} {AX : Nat → Prop} (hr : vx_Run p l e R s m args below meth c H locs cells slots mc ms (F0 m pc ls st0) rest (va_Ql post B A1 a) (vx_X px BX AX) free) (hS : va_S A0 H0 H locs) (hA : ∀ q, q < H.size → A1 q → A0 q) (hf : ∀ q, free q → A0 q) (hAX : ∀ q, q < H.size → AX q → A0 q)
    (kx : ∀ (E : String) (ce : Cell) (q9 : Addr) (u : SX) (t : State) (H1 : Heap) (locs1 : List Loc), t.heap = H1 → s.vm.Alike t.vm → px u → BX E u t → H.size ≤ H1.size → (∀ q : Nat, q < H.size → ¬ AX q → H1[q]? = H[q]?) → va_S A0 H0 H1 locs1 → H1[q9]? = some ce → ce.vm = .none → s.vm.findClass E = some ce.cls → vx_W p l e R s m args below meth c H1 locs1 (cells + mc) (slots + ms) Q (F0 m pc ls rest) q9)
    (kk : ∀ (r : Int64) (u : S) (t : State) (H1 : Heap) (locs1 : List Loc), t.heap = H1 → s.vm.Alike t.vm → post r u → B u t → H.size ≤ H1.size → (∀ q : Nat, q < H.size → ¬ A1 q → H1[q]? = H[q]?) → va_S A0 H0 H1 locs1 → W p l e R s m args below meth c H1 locs1 (cells + mc) (slots + ms) Q (F0 m (pc + 3) ls (.long r :: rest))) : W p l e R s m args below meth c H locs cells slots Q (F0 m pc ls st0) := by
  intro T hT X
  rcases hr T hT X with ⟨v, st₀, t, T', L, h0, X', hL, e1, e2, ⟨⟨r, u, hv, hp, hb⟩, hF⟩, st⟩ | ⟨q, st₀, t, T', L, E, ce, h0, X', hL, e1, e2, ⟨u, hp, hb, hF⟩, hce, hcv, hcl, st⟩
  · cases hv
    obtain ⟨k1, k2, k3⟩ := vx_keep h0 e1 hS hA hf hL hF
    obtain ⟨t2, a1, b1⟩ := kk r u t T'.heap (locs ++ L) e1.symm (by rw [← e2]; exact X'.warmed.alike) hp hb k1 k2 k3 T' rfl X'
    exact ⟨t2, st t2 a1, b1⟩
  · obtain ⟨k1, k2, k3⟩ := vx_keep h0 e1 hS hAX hf hL hF
    obtain ⟨t2, a1, b1⟩ := kx E ce q u t T'.heap (locs ++ L) e1.symm (by rw [← e2]; exact X'.warmed.alike) hp hb k1 k2 k3 (by rw [e1]; exact hce) hcv hcl T' rfl X'
    exact ⟨t2, st.trans a1, b1⟩
theorem vx_callf {S SX : Type} {post : UInt32 → S → Prop} {px : SX → Prop} {B : S → State → Prop} {BX : String → SX → State → Prop} {AX : Nat → Prop} (hr : vx_Run p l e R s m args below meth c H locs cells slots mc ms (F0 m pc ls st0) rest (va_Qf post B A1 a) (vx_X px BX AX) free) (hS : va_S A0 H0 H locs) (hA : ∀ q, q < H.size → A1 q → A0 q) (hf : ∀ q, free q → A0 q) (hAX : ∀ q, q < H.size → AX q → A0 q)
    (kx : ∀ (E : String) (ce : Cell) (q9 : Addr) (u : SX) (t : State) (H1 : Heap) (locs1 : List Loc), t.heap = H1 → s.vm.Alike t.vm → px u → BX E u t → H.size ≤ H1.size → (∀ q : Nat, q < H.size → ¬ AX q → H1[q]? = H[q]?) → va_S A0 H0 H1 locs1 → H1[q9]? = some ce → ce.vm = .none → s.vm.findClass E = some ce.cls → vx_W p l e R s m args below meth c H1 locs1 (cells + mc) (slots + ms) Q (F0 m pc ls rest) q9)
    (kk : ∀ (r : UInt32) (u : S) (t : State) (H1 : Heap) (locs1 : List Loc), t.heap = H1 → s.vm.Alike t.vm → post r u → B u t → H.size ≤ H1.size → (∀ q : Nat, q < H.size → ¬ A1 q → H1[q]? = H[q]?) → va_S A0 H0 H1 locs1 → W p l e R s m args below meth c H1 locs1 (cells + mc) (slots + ms) Q (F0 m (pc + 3) ls (.float r :: rest))) : W p l e R s m args below meth c H locs cells slots Q (F0 m pc ls st0) := by
  intro T hT X
  rcases hr T hT X with ⟨v, st₀, t, T', L, h0, X', hL, e1, e2, ⟨⟨r, u, hv, hp, hb⟩, hF⟩, st⟩ | ⟨q, st₀, t, T', L, E, ce, h0, X', hL, e1, e2, ⟨u, hp, hb, hF⟩, hce, hcv, hcl, st⟩
  · cases hv
    obtain ⟨k1, k2, k3⟩ := vx_keep h0 e1 hS hA hf hL hF
    obtain ⟨t2, a1, b1⟩ := kk r u t T'.heap (locs ++ L) e1.symm (by rw [← e2]; exact X'.warmed.alike) hp hb k1 k2 k3 T' rfl X'
    exact ⟨t2, st t2 a1, b1⟩
  · obtain ⟨k1, k2, k3⟩ := vx_keep h0 e1 hS hAX hf hL hF
    obtain ⟨t2, a1, b1⟩ := kx E ce q u t T'.heap (locs ++ L) e1.symm (by rw [← e2]; exact X'.warmed.alike) hp hb k1 k2 k3 (by rw [e1]; exact hce) hcv hcl T' rfl X'
    exact ⟨t2, st.trans a1, b1⟩
theorem vx_calld {S SX : Type} {post : UInt64 → S → Prop} {px : SX → Prop} {B : S → State → Prop} {BX : String → SX → State → Prop} {AX : Nat → Prop} (hr : vx_Run p l e R s m args below meth c H locs cells slots mc ms (F0 m pc ls st0) rest (va_Qd post B A1 a) (vx_X px BX AX) free) (hS : va_S A0 H0 H locs) (hA : ∀ q, q < H.size → A1 q → A0 q) (hf : ∀ q, free q → A0 q) (hAX : ∀ q, q < H.size → AX q → A0 q)
    (kx : ∀ (E : String) (ce : Cell) (q9 : Addr) (u : SX) (t : State) (H1 : Heap) (locs1 : List Loc), t.heap = H1 → s.vm.Alike t.vm → px u → BX E u t → H.size ≤ H1.size → (∀ q : Nat, q < H.size → ¬ AX q → H1[q]? = H[q]?) → va_S A0 H0 H1 locs1 → H1[q9]? = some ce → ce.vm = .none → s.vm.findClass E = some ce.cls → vx_W p l e R s m args below meth c H1 locs1 (cells + mc) (slots + ms) Q (F0 m pc ls rest) q9)
    (kk : ∀ (r : UInt64) (u : S) (t : State) (H1 : Heap) (locs1 : List Loc), t.heap = H1 → s.vm.Alike t.vm → post r u → B u t → H.size ≤ H1.size → (∀ q : Nat, q < H.size → ¬ A1 q → H1[q]? = H[q]?) → va_S A0 H0 H1 locs1 → W p l e R s m args below meth c H1 locs1 (cells + mc) (slots + ms) Q (F0 m (pc + 3) ls (.double r :: rest))) : W p l e R s m args below meth c H locs cells slots Q (F0 m pc ls st0) := by
  intro T hT X
  rcases hr T hT X with ⟨v, st₀, t, T', L, h0, X', hL, e1, e2, ⟨⟨r, u, hv, hp, hb⟩, hF⟩, st⟩ | ⟨q, st₀, t, T', L, E, ce, h0, X', hL, e1, e2, ⟨u, hp, hb, hF⟩, hce, hcv, hcl, st⟩
  · cases hv
    obtain ⟨k1, k2, k3⟩ := vx_keep h0 e1 hS hA hf hL hF
    obtain ⟨t2, a1, b1⟩ := kk r u t T'.heap (locs ++ L) e1.symm (by rw [← e2]; exact X'.warmed.alike) hp hb k1 k2 k3 T' rfl X'
    exact ⟨t2, st t2 a1, b1⟩
  · obtain ⟨k1, k2, k3⟩ := vx_keep h0 e1 hS hAX hf hL hF
    obtain ⟨t2, a1, b1⟩ := kx E ce q u t T'.heap (locs ++ L) e1.symm (by rw [← e2]; exact X'.warmed.alike) hp hb k1 k2 k3 (by rw [e1]; exact hce) hcv hcl T' rfl X'
    exact ⟨t2, st.trans a1, b1⟩
theorem vx_callv {S SX : Type} {post : S → Prop} {px : SX → Prop} {B : S → State → Prop} {BX : String → SX → State → Prop} {AX : Nat → Prop} (hr : vx_Run p l e R s m args below meth c H locs cells slots mc ms (F0 m pc ls st0) rest (va_Qv post B A1 a) (vx_X px BX AX) free) (hS : va_S A0 H0 H locs) (hA : ∀ q, q < H.size → A1 q → A0 q) (hf : ∀ q, free q → A0 q) (hAX : ∀ q, q < H.size → AX q → A0 q)
    (kx : ∀ (E : String) (ce : Cell) (q9 : Addr) (u : SX) (t : State) (H1 : Heap) (locs1 : List Loc), t.heap = H1 → s.vm.Alike t.vm → px u → BX E u t → H.size ≤ H1.size → (∀ q : Nat, q < H.size → ¬ AX q → H1[q]? = H[q]?) → va_S A0 H0 H1 locs1 → H1[q9]? = some ce → ce.vm = .none → s.vm.findClass E = some ce.cls → vx_W p l e R s m args below meth c H1 locs1 (cells + mc) (slots + ms) Q (F0 m pc ls rest) q9)
    (kk : ∀ (u : S) (t : State) (H1 : Heap) (locs1 : List Loc), t.heap = H1 → s.vm.Alike t.vm → post u → B u t → H.size ≤ H1.size → (∀ q : Nat, q < H.size → ¬ A1 q → H1[q]? = H[q]?) → va_S A0 H0 H1 locs1 → W p l e R s m args below meth c H1 locs1 (cells + mc) (slots + ms) Q (F0 m (pc + 3) ls (rest))) : W p l e R s m args below meth c H locs cells slots Q (F0 m pc ls st0) := by
  intro T hT X
  rcases hr T hT X with ⟨v, st₀, t, T', L, h0, X', hL, e1, e2, ⟨⟨u, hv, hp, hb⟩, hF⟩, st⟩ | ⟨q, st₀, t, T', L, E, ce, h0, X', hL, e1, e2, ⟨u, hp, hb, hF⟩, hce, hcv, hcl, st⟩
  · cases hv
    obtain ⟨k1, k2, k3⟩ := vx_keep h0 e1 hS hA hf hL hF
    obtain ⟨t2, a1, b1⟩ := kk u t T'.heap (locs ++ L) e1.symm (by rw [← e2]; exact X'.warmed.alike) hp hb k1 k2 k3 T' rfl X'
    exact ⟨t2, st t2 a1, b1⟩
  · obtain ⟨k1, k2, k3⟩ := vx_keep h0 e1 hS hAX hf hL hF
    obtain ⟨t2, a1, b1⟩ := kx E ce q u t T'.heap (locs ++ L) e1.symm (by rw [← e2]; exact X'.warmed.alike) hp hb k1 k2 k3 (by rw [e1]; exact hce) hcv hcl T' rfl X'
    exact ⟨t2, st.trans a1, b1⟩
/-- caught by the row x of this method's table; the rows ahead don't take it -/
theorem vx_catch {own name : String} {E : String} {ce : Cell} {q : Addr} (hown : s.vm.findClass own = some m.cls) (pre : List ExceptionTableEntry) (x : ExceptionTableEntry) (suf : List ExceptionTableEntry) (hsplit : c.exceptionTable.toList = pre ++ x :: suf)
    (hpass : ∀ z ∈ pre, covers z pc = false ∨ (z.catchType ≠ 0 ∧ ∃ nm : String, (Cond.classLink own z.catchType nm).before args s = true ∧ va_Nc E nm s)) (hx : covers x pc = true) (h0 : x.catchType ≠ 0)
    (hlink : (Cond.classLink own x.catchType name).before args s = true) (hcast : (Cond.castable E name).before args s = true) (hcell : H[q]? = some ce) (hv : ce.vm = .none) (hcl : s.vm.findClass E = some ce.cls)
    (kk : W p l e R s m args below meth c H locs cells slots Q (F0 m x.handlerPc ls [.ref q])) : vx_W p l e R s m args below meth c H locs cells slots Q (F0 m pc ls rest) q := by
  intro T hT X
  have hpl : e.platform.magicAccessors = ({} : Platform).magicAccessors := by rw [X.admits.platform]
  obtain ⟨c3, c4, hc3, hc4, hasg⟩ := Cond.castable_spec hcast
  cases Option.some.inj (hc3.symm.trans hcl)
  obtain ⟨c5, hc5, hcl5⟩ := Cond.classLink_spec hown hlink e.platform hpl
  cases Option.some.inj (hc4.symm.trans hc5)
  obtain ⟨vm', X', st⟩ := X.thenCaughtThrough q (g := F0 m pc ls rest) rfl (Steps.refl _) (by rw [hT]; exact hcell) (by rw [hv]; rfl) (by obtain ⟨k9, h9, -⟩ := Vm.findClass_spec hcl; exact ⟨k9, h9⟩) pre x suf hsplit
    (fun z hz => by
      rcases hpass z hz with h | ⟨hz0, nm, hl1, hn1⟩
      · exact Or.inl h
      · obtain ⟨c6, hc6, hcl6⟩ := Cond.classLink_spec hown hl1 e.platform hpl
        obtain ⟨a8, b8, h1, h2, h3⟩ := hn1
        cases Option.some.inj (h1.symm.trans hcl)
        cases Option.some.inj (h2.symm.trans hc6)
        exact Or.inr ⟨hz0, _, hcl6, h3⟩) hx (Or.inr ⟨h0, c4, hcl5, hasg⟩)
  obtain ⟨t, a1, b1⟩ := kk (T.setVm vm') hT X'
  exact ⟨t, st.trans a1, b1⟩
end Rows
section Ends
variable {p : Program} {l : Launch} {e : Env} {R : Room} {s : State} {m : MethodId} {args : Array Value} {below : List Frame} {meth : Method} {c : Code} {H : Heap} {locs : List Loc} {cells slots : Nat} {Q : State → Prop}
variable {mc ms : Nat} {free : Addr → Prop} {A0 A1 : Nat → Prop} {H0 : Heap} {a : Array Value} {ls : Array Slot} {st0 rest : List Value}
variable {Qc : Array Value → State → Outcome → State → Prop} {XC : String → State → State → Prop}
/-- what a body that may throw owes at its end -/
def vx_MQ (below : List Frame) (Qc : Array Value → State → Outcome → State → Prop) (XC : String → State → State → Prop) (a : Array Value) (s : State) (mc ms : Nat) (free : Addr → Prop) : State → Prop := fun t =>
  ∃ o, t.status = .running ∧ Ended t below o ∧ vx_Q Qc XC mc ms free a s o t
theorem vx_ret {g : JFrame} {mc ms : Nat} (k : W p l e R s m args below meth c H locs cells slots (MQ below Qc args s mc ms free) g) : W p l e R s m args below meth c H locs cells slots (vx_MQ below Qc XC args s mc ms free) g := by
  intro T hT X
  obtain ⟨t, a1, o, b1, b2, b3, b4⟩ := k T hT X
  exact ⟨t, a1, o, b1, b2, Or.inl ⟨b3, b4⟩⟩
/-- not caught here: it goes on to the caller -/
theorem vx_widen {g : JFrame} {q : Addr} {k n : Nat} (h1 : cells ≤ k) (h2 : slots ≤ n) (kk : vx_W p l e R s m args below meth c H locs k n Q g q) : vx_W p l e R s m args below meth c H locs cells slots Q g q := fun T hT X => kk T hT (stand_widen X h1 h2)
theorem vx_out {pc : Nat} {E : String} {ce : Cell} {q : Addr} {mc ms : Nat} (hout : ∀ x ∈ c.exceptionTable.toList, covers x pc = false) (hlocks : meth.locks = false) (hcell : H[q]? = some ce) (hv : ce.vm = .none) (hcl : s.vm.findClass E = some ce.cls)
    (hx : ∀ t : State, t.heap = H → s.vm.Alike t.vm → XC E s t) (hf : ∀ z ∈ locs, free z.base) (hc : cells ≤ mc) (hs : slots ≤ ms) :
    vx_W p l e R s m args below meth c H locs cells slots (vx_MQ below Qc XC args s mc ms free) (F0 m pc ls rest) q := by
  intro T hT X
  obtain ⟨st1, hrun, hend, hW, hsm⟩ := X.leaveThrown q (g := F0 m pc ls rest) rfl rfl rfl hout hlocks
  have hcell9 : (T.setFrames (.throwing q :: below)).heap[q]? = some ce := by
    show T.heap[q]? = some ce
    rw [hT]; exact hcell
  exact ⟨_, st1, .threw q, hrun, hend, Or.inr ⟨q, rfl, E, ce, locs, hx _ hT hW.alike, hcell9, hv, hcl, hW, hsm.mono hc hs, hf⟩⟩
theorem vx_frame {U : State} {k n : Nat} (h : s.sameButNew ({ U with vm := s.vm } : State) locs k n) : s.heap.size ≤ U.heap.size ∧ ∀ q : Nat, q < s.heap.size → (∀ z ∈ locs, z.base ≠ q) → U.heap[q]? = s.heap[q]? := by
  obtain ⟨-, h2, -, -, -, h6⟩ := h
  refine ⟨h2, fun q hq hz => ?_⟩
  obtain ⟨c9, e1, e2, e3, e4⟩ := h6 q _ (Array.getElem?_eq_getElem hq)
  have hs : c9.slots = (s.heap[q]).slots := Array.ext_getElem? fun i => e4 i fun hm => hz _ hm rfl
  have h9 : c9 = s.heap[q] := by
    rw [hs] at e2
    exact e2
  have e5 : U.heap[q]? = some c9 := e1
  rw [e5, h9, Array.getElem?_eq_getElem hq]
/-- the words of a throw but the four that speak of the heap -/
def vx_no (w : Cond) : Bool := decide (w ≠ .isRef (.static Bundle.tN "UNASSIGNED_STACK" Bundle.steD)) && decide (w ≠ .isRef (.static Bundle.tN "SUPPRESSED_SENTINEL" Bundle.listD)) && decide (w ≠ .laysStatic Bundle.tN "UNASSIGNED_STACK" Bundle.steD) && decide (w ≠ .laysStatic Bundle.tN "SUPPRESSED_SENTINEL" Bundle.listD)
def vx_at0 (own : String) (ic : Nat) (X : String) (names : List String) : List Cond := (Bundle.ownAtoms0 own ic X names).filter vx_no
def vx_atS (own : String) (ic : Nat) (X : String) (names : List String) : List Cond := (Bundle.ownAtoms own ic X names).filter vx_no
/-- a word that the tables alone decide, or a good one -/
def vx_ot (w : Cond) : Bool := w.onTables || goodWord w
theorem vx_ot_at {args a' : Array Value} {s U : State} {w : Cond} (hW : s.WarmedH U.vm) (hvm : s.vm = U.vm) (hg : vx_ot w = true) (h : w.before args s = true) : w.before a' U = true := by
  simp only [vx_ot, Bool.or_eq_true] at hg
  rcases hg with hg | hg
  · exact va_tabs hg hvm h
  · exact word_at hW (good_of_word hg) h
/-- a list's words: the good ones out of the method's own list, the others by premises of their own -/
theorem vx_hat {args : Array Value} {s : State} {L B : List Cond} (h1 : ∀ w ∈ L.filter goodWord, w.before args s = true) (h2 : ∀ w ∈ L.filter (fun w => !goodWord w), w ∈ B) (h3 : ∀ w ∈ B, w.before args s = true) : ∀ w ∈ L, w.before args s = true := by
  intro w hw
  by_cases g : goodWord w = true
  · exact h1 w (List.mem_filter.mpr ⟨hw, g⟩)
  · refine h3 w (h2 w (List.mem_filter.mpr ⟨hw, ?_⟩))
    show (!goodWord w) = true
    cases hgw : goodWord w
    · rfl
    · exact absurd hgw g
theorem vx_c {args : Array Value} {s : State} {w : Cond} {B : List Cond} (h : w.before args s = true) (t : ∀ w ∈ B, w.before args s = true) : ∀ w' ∈ w :: B, w'.before args s = true := fun w' h' => (List.mem_cons.mp h').elim (fun e => by rw [e]; exact h) (t w')
theorem vx_n {args : Array Value} {s : State} : ∀ w ∈ ([] : List Cond), w.before args s = true := fun _ h => nomatch h
theorem vx_own {args : Array Value} {s : State} {L : List Cond} (h1 : ∀ w ∈ L.filter vx_no, w.before args s = true)
    (hU : (Cond.isRef (.static Bundle.tN "UNASSIGNED_STACK" Bundle.steD)).before args s = true) (hN : (Cond.isRef (.static Bundle.tN "SUPPRESSED_SENTINEL" Bundle.listD)).before args s = true)
    (lU : (Cond.laysStatic Bundle.tN "UNASSIGNED_STACK" Bundle.steD).before args s = true) (lN : (Cond.laysStatic Bundle.tN "SUPPRESSED_SENTINEL" Bundle.listD).before args s = true) : ∀ w ∈ L, w.before args s = true := by
  intro w hw
  by_cases e1 : w = .isRef (.static Bundle.tN "UNASSIGNED_STACK" Bundle.steD)
  · rw [e1]; exact hU
  · by_cases e2 : w = .isRef (.static Bundle.tN "SUPPRESSED_SENTINEL" Bundle.listD)
    · rw [e2]; exact hN
    · by_cases e3 : w = .laysStatic Bundle.tN "UNASSIGNED_STACK" Bundle.steD
      · rw [e3]; exact lU
      · by_cases e4 : w = .laysStatic Bundle.tN "SUPPRESSED_SENTINEL" Bundle.listD
        · rw [e4]; exact lN
        · exact h1 w (List.mem_filter.mpr ⟨hw, by unfold vx_no; rw [decide_eq_true e1, decide_eq_true e2, decide_eq_true e3, decide_eq_true e4]; rfl⟩)
/-- where a static field lies, its class's statics cell in H -/
def vx_L (C n d : String) (A : Nat → Prop) (U : State) (H : Heap) : Prop := ∃ (c : ClassId) (k : Class) (i : Nat) (f : Field) (a : Nat) (cell : Cell), U.vm.findClass C = some c ∧ U.fieldFound? C n d = some (c, k, i, f) ∧ f.isStatic = true ∧ k.statics = some a ∧ H[a]? = some cell ∧ cell.vm.isStatics = true ∧ cell.cls = c ∧ f.slot < cell.slots.size ∧ k.staticTypes[f.slot]? = some f.type ∧ ¬ A a
theorem vx_L.moved {C n d : String} {A : Nat → Prop} {u U : State} {H : Heap} (hvm : u.vm.Alike U.vm) (h : vx_L C n d A u H) : vx_L C n d A U H := by
  obtain ⟨c, k, i, f, a, cell, h1, h2, h3, h4, h5, h6, h7, h8, h9, h10⟩ := h
  obtain ⟨k', hi', he⟩ := State.fieldFound?_setVm hvm h2
  exact ⟨c, k', i, f, a, cell, by rw [hvm.findClass]; exact h1, hi', h3, by rw [he]; exact h4, h5, h6, h7, h8, by rw [he]; exact h9, h10⟩
theorem vx_L.kept {C n d : String} {A : Nat → Prop} {U : State} {H H1 : Heap} (h : vx_L C n d A U H) (hq : ∀ a : Nat, a < H.size → ¬ A a → H1[a]? = H[a]?) : vx_L C n d A U H1 := by
  obtain ⟨c, k, i, f, a, cell, h1, h2, h3, h4, h5, h6, h7, h8, h9, h10⟩ := h
  exact ⟨c, k, i, f, a, cell, h1, h2, h3, h4, by rw [hq a (Array.getElem?_eq_some_iff.mp h5).1 h10]; exact h5, h6, h7, h8, h9, h10⟩
theorem vx_L.narrow {C n d : String} {A B : Nat → Prop} {U : State} {H : Heap} (h : vx_L C n d A U H) (hAB : ∀ q, B q → A q) : vx_L C n d B U H := by
  obtain ⟨c, k, i, f, a, cell, h1, h2, h3, h4, h5, h6, h7, h8, h9, h10⟩ := h
  exact ⟨c, k, i, f, a, cell, h1, h2, h3, h4, h5, h6, h7, h8, h9, fun z => h10 (hAB _ z)⟩
theorem vx_L.word {C n d : String} {A : Nat → Prop} {s : State} {args : Array Value} (h : vx_L C n d A s s.heap) : (Cond.laysStatic C n d).before args s = true := by
  obtain ⟨c, k, i, f, a, cell, h1, h2, h3, h4, h5, h6, h7, h8, h9, -⟩ := h
  show (Cond.laysStatic C n d).holds args s none s [] = true
  exact Cond.laysStatic_of h1 h2 h3 h4 h5 h6 h7 h8 h9
/-- .. and what it holds: null or some reference -/
def vx_Zq (C n d : String) (A : Nat → Prop) (U : State) (H : Heap) : Prop := va_Zq C n d A U H ∧ vx_L C n d A U H
theorem vx_Zq.moved {C n d : String} {A : Nat → Prop} {u U : State} {H : Heap} (hvm : u.vm.Alike U.vm) (h : vx_Zq C n d A u H) : vx_Zq C n d A U H := ⟨va_Zq.moved hvm h.1, vx_L.moved hvm h.2⟩
theorem vx_Zq.kept {C n d : String} {A : Nat → Prop} {U : State} {H H1 : Heap} (h : vx_Zq C n d A U H) (hq : ∀ a : Nat, a < H.size → ¬ A a → H1[a]? = H[a]?) : vx_Zq C n d A U H1 := ⟨va_Zq.kept h.1 hq, vx_L.kept h.2 hq⟩
theorem vx_Zq.narrow {C n d : String} {A B : Nat → Prop} {U : State} {H : Heap} (h : vx_Zq C n d A U H) (hAB : ∀ q, B q → A q) : vx_Zq C n d B U H := ⟨va_Zq.narrow h.1 hAB, vx_L.narrow h.2 hAB⟩
theorem vx_Zqof {args : Array Value} {s : State} {C n d : String} {A : Nat → Prop} (hl : (Cond.laysStatic C n d).before args s = true) (hini : (Cond.initialized C).before args s = true) (h : (Cond.isRef (.static C n d)).before args s = true) (hA : ∀ a : Nat, a < s.heap.size → ¬ A a) : vx_Zq C n d A s s.heap := by
  refine ⟨va_Zqof hl hini h hA, ?_⟩
  obtain ⟨c, k, i, f, a, cell, h1, h2, h3, h4, h5, h6, h7, h8, h9⟩ := Cond.laysStatic_spec hl
  exact ⟨c, k, i, f, a, cell, h1, h2, h3, h4, h5, h6, h7, h8, h9, hA a (Array.getElem?_eq_some_iff.mp h5).1⟩
theorem vx_isRef {C n d : String} {v : Value} {A : Nat → Prop} {s : State} {args : Array Value} (h : va_Z C n d v A s s.heap) (hv : v.isRef = true) : (Cond.isRef (.static C n d)).before args s = true := by
  obtain ⟨cf, kf, fi, f, a, cell, h1, h2, h3, h4, h5, h6, h7, -⟩ := h
  have he : (Term.static C n d).eval args s none [] s = some v := by
    simp [Term.eval, State.fieldNamed?, h1, h2, h4, h5, h6, h7]
  simp only [Cond.before, Cond.holds, Cond.value, he]
  cases v <;> simp_all [Value.isRef]
theorem vx_isRefq {C n d : String} {A : Nat → Prop} {s : State} {args : Array Value} (h : va_Zq C n d A s s.heap) : (Cond.isRef (.static C n d)).before args s = true := by
  rcases h with h | ⟨t, h⟩
  · exact vx_isRef h rfl
  · exact vx_isRef h rfl
/-- the same frame, seen from here: as if the method were called anew in this heap -/
theorem vx_rebase {T : State} (X : Stand p l e R s m args below meth c T locs cells slots) {R' : Room} (hf : R'.frames ≤ R.frames) (hl : R'.locals ≤ R.locals) (hc : cells + R'.cells ≤ R.cells) (hs : slots + R'.slots ≤ R.slots) :
    Stand p l e R' ((T.setVm s.vm).setFrames (.invoking m args :: below)) m args below meth c T [] 0 0 := by
  have htop : (T.setVm s.vm).topJava?.isSome := X.here.top
  have hF : ((T.setVm s.vm).setFrames (.invoking m args :: below)).frames = .invoking m args :: below := State.frames_setFrames _ (State.cur_lt_of_top htop)
  obtain ⟨g₀, hg0⟩ := Option.isSome_iff_exists.mp htop
  obtain ⟨r, hr⟩ := State.topJava?_eq_some.mp hg0
  have hl9 : e.platform.stackLimits (T.setVm s.vm).me = e.platform.stackLimits s.me := X.limits
  have hb9 : (T.setVm s.vm).me.stackBytes = s.me.stackBytes := X.bytes
  refine ⟨X.admits, X.cas, X.clock, hF, ?_, X.hears, X.method, X.code, X.here, X.tail, X.warmed, ?_, ?_, ?_⟩
  · have h := X.room
    have hU : ((T.setVm s.vm).setFrames (.invoking m args :: below)).localsInUse = s.localsInUse := by
      rw [State.localsInUse_invoking hF (meth := meth) (c := c) X.method X.code, State.localsInUse_invoking X.frames X.method X.code]
    simp only [State.hasRoom, Bool.and_eq_true, decide_eq_true_eq] at h ⊢
    obtain ⟨⟨⟨⟨h1, h2, h3, h4, h5, h6⟩, h7⟩, h8⟩, h9⟩ := h
    rw [X.frames, List.length_cons] at h2 h3
    have q1 := X.heapSize
    have q2 := X.used
    simp only [hF, hU, List.length_cons, State.stackLimits_setFrames, State.stackBytes_setFrames, hl9, hb9]
    refine ⟨⟨⟨⟨by omega, by omega, by omega, by omega, by omega, h6⟩, ?_⟩, ?_⟩, X.book⟩
    · show T.heap.size + R'.cells ≤ e.platform.maxCells
      omega
    · show T.slotsUsed + R'.slots ≤ e.platform.maxSlots
      omega
  · rw [State.stackLimits_setFrames]; rfl
  · rw [State.stackBytes_setFrames]; rfl
  · refine ⟨?_, Nat.le_refl _, Nat.le_refl _, ?_, ?_, fun a c9 h9 => ⟨c9, h9, rfl, rfl, fun _ _ => rfl⟩⟩
    · obtain ⟨t, ht, -⟩ := State.frames_cons hr
      show T.setVm s.vm = { ((T.setVm s.vm).setFrames (.invoking m args :: below)).setFrames (T.setVm s.vm).frames with heap := T.heap, slotsUsed := T.slotsUsed }
      rw [State.setFrames_setFrames, State.setFrames_self ht]
      rfl
    · show T.slotsUsed = T.slotsUsed + ((T.heap.toList.drop T.heap.size).map (·.slots.size)).sum
      rw [List.drop_eq_nil_of_le (Nat.le_of_eq Array.length_toList)]
      rfl
    · show ((T.heap.toList.drop T.heap.size).map (·.slots.size)).sum ≤ 0
      rw [List.drop_eq_nil_of_le (Nat.le_of_eq Array.length_toList)]
      exact Nat.le_refl _
/-- 'throw new E()': new; dup; invokespecial; athrow -/
theorem vx_throw0 {cc : ByteArray} {pc : Nat} (hexec : p.tables.exec = Jvm.exec) (hb : c.code = cc) (hl : l.stackTraces = false) {own cls : String} {names : List String} {ik ic mc ms : Nat} {A : Nat → Prop}
    (hown : s.vm.findClass own = some m.cls) (hcls : Bundle.fit cls = true) (hnames : ∀ n ∈ names, Bundle.fit n = true)
    (hk : (Cond.classLink own ik cls).before args s = true) (hini : (Cond.initialized cls).before args s = true) (hat : ∀ w ∈ vx_at0 own ic cls names, w.before args s = true)
    (hgood : ∀ w ∈ Cond.classLink own ik cls :: Cond.initialized cls :: vx_at0 own ic cls names, vx_ot w = true)
    (hU : vx_Zq Bundle.tN "UNASSIGNED_STACK" Bundle.steD A s s.heap) (hN : vx_Zq Bundle.tN "SUPPRESSED_SENTINEL" Bundle.listD A s s.heap) (hS : va_S A s.heap H locs) (hsize : ls.size = c.maxLocals)
    (d0 : decode cc pc = .ok (.new ik, 3)) (d3 : decode cc (pc + 3) = .ok (.dup, 1)) (d4 : decode cc (pc + 4) = .ok (.invokespecial ic, 3)) (d7 : decode cc (pc + 7) = .ok (.athrow, 1))
    (hout : ∀ x ∈ c.exceptionTable.toList, covers x (pc + 7) = false)
    (hRframes : names.length + 3 < R.frames) (hRlocals : (rest.map fun v => v.category).sum + (13 * (names.length + 1) + 42) ≤ R.locals) (hRcells : cells + 1 ≤ R.cells) (hRslots : slots + 6 ≤ R.slots) (hlocks : meth.locks = false)
    (hx : ∀ t : State, s.vm.Alike t.vm → H.size ≤ t.heap.size → (∀ q : Nat, q < H.size → t.heap[q]? = H[q]?) → XC cls s t)
    (hf : ∀ z ∈ locs, free z.base) (hc : cells + 1 ≤ mc) (hs : slots + 6 ≤ ms) :
    W p l e R s m args below meth c H locs cells slots (vx_MQ below Qc XC args s mc ms free) (F0 m pc ls rest) := by
  intro T hT X
  have htr : e.platform.stackTraces = false := (show e.platform.stackTraces = l.stackTraces by rw [X.admits.platform]).trans hl
  have Y := vx_rebase X (R' := { frames := R.frames, locals := R.locals, cells := 1, slots := 6 }) (Nat.le_refl _) (Nat.le_refl _) hRcells hRslots
  obtain ⟨s', hA⟩ : ∃ z, z = (T.setVm s.vm).setFrames (.invoking m args :: below) := ⟨_, rfl⟩
  rw [← hA] at Y
  have hvm : s'.vm = s.vm := by rw [hA]; rfl
  have hhp : s'.heap = H := by rw [hA]; exact hT
  have hW0 : s.WarmedH s'.vm := by rw [hvm]; exact State.WarmedH.refl s
  have hat' : ∀ w ∈ vx_at0 own ic cls names, w.before args s' = true := fun w hw => vx_ot_at hW0 hvm.symm (hgood w (List.mem_cons_of_mem _ (List.mem_cons_of_mem _ hw))) (hat w hw)
  have hk' : (Cond.classLink own ik cls).before args s' = true := vx_ot_at hW0 hvm.symm (hgood _ List.mem_cons_self) hk
  have hini' : (Cond.initialized cls).before args s' = true := vx_ot_at hW0 hvm.symm (hgood _ (List.mem_cons_of_mem _ List.mem_cons_self)) hini
  have hU' : vx_Zq Bundle.tN "UNASSIGNED_STACK" Bundle.steD A s' s'.heap := by rw [hhp]; exact vx_Zq.moved hW0.alike (hU.kept hS.2.1)
  have hN' : vx_Zq Bundle.tN "SUPPRESSED_SENTINEL" Bundle.listD A s' s'.heap := by rw [hhp]; exact vx_Zq.moved hW0.alike (hN.kept hS.2.1)
  have h : ∀ w ∈ Bundle.ownAtoms0 own ic cls names, w.before args s' = true := vx_own hat' (vx_isRefq hU'.1) (vx_isRefq hN'.1) hU'.2.word hN'.2.word
  have hown' : s'.vm.findClass own = some m.cls := by rw [hvm]; exact hown
  have hins : (Cond.instantiable cls 6).before args s' = true := h _ (by simp [Bundle.ownAtoms0])
  obtain ⟨vm₁, cX, kX, hfX, hkX, -, -, X₁, st1⟩ := Y.newCold hexec (own := own) (C := cls) (index := ik) (n := 6) hown' hk' hins hini'
    (g := F0 m pc ls rest) rfl (by rw [hb]; exact d0) (Nat.le_refl _) (Nat.le_refl _)
  generalize hT1 : (T.setVm vm₁).pushCell { cls := cX, slots := kX.instanceTypes.map defaultValue, vm := .none } = T1 at X₁ st1
  have hcat : (Value.ref T.heap.size).category = 1 := rfl
  have hcellA : T1.heap[T.heap.size]? = some (freshCell cX kX) := by rw [← hT1]; exact State.heap_pushCell_size _ _
  have d3' : decode c.code (pc + 3) = .ok (.dup, 1) := by rw [hb]; exact d3
  obtain ⟨U, hsteps, hrun, hend, hW, hsame, ce, hce, hO⟩ := X₁.ctorThrow0 hexec htr (own := own) (cls := cls) (names := names) (ic := ic) hown' hcls hnames h (fun x hx => nomatch hx) hfX hkX hcellA (by rw [hhp, hT]; exact Nat.le_refl _)
    (g := { method := m, pc := pc + 4, locals := ls, stack := .ref T.heap.size :: .ref T.heap.size :: rest, locked := none }) rfl hsize rfl rfl (rest := rest) rfl
    (by rw [hb]; exact d4) (by rw [hb]; exact d7) hout hRframes (by simp only [List.map_cons, List.sum_cons, hcat]; omega) hlocks
  obtain ⟨f1, f2⟩ := vx_frame hsame
  rw [hhp] at f1 f2
  have hWs : s.WarmedH U.vm := State.WarmedH.trans hW0 hW
  have hcl : s.vm.findClass cls = some ce.cls := by
    have h9 := hO.cls
    rw [hvm] at h9
    exact h9
  have hall : s.sameButNew ({ U with vm := s.vm } : State) locs mc ms := by
    subst hA
    obtain ⟨e1, e2⟩ := hsame
    rw [State.setFrames_setFrames] at e1
    have h2 : (T.setVm s.vm).sameButNew ({ U with vm := s.vm } : State) [] (0 + 1) (0 + 6) := ⟨e1, e2⟩
    have h3 := X.same.trans h2
    rw [List.append_nil] at h3
    exact h3.mono hc hs
  refine ⟨U, ?_, .threw T.heap.size, hrun, hend, Or.inr ⟨T.heap.size, rfl, cls, ce, locs, hx U hWs.alike f1 (fun q hq => f2 q hq (fun z hz => nomatch hz)), hce, hO.vm, hcl, hWs, hall, hf⟩⟩
  refine st1 _ ?_
  show Steps p.tables e below (T1.setTop { method := m, pc := pc + 3, locals := ls, stack := .ref T.heap.size :: rest, locked := none }) _
  jvm_step X₁.here [X₁.here.top, hexec, d3', Value.category]
  exact hsteps
/-- 'throw new E("text")': new; dup; ldc; invokespecial; athrow -/
theorem vx_throwS {cc : ByteArray} {pc : Nat} (hexec : p.tables.exec = Jvm.exec) (hb : c.code = cc) (hl : l.stackTraces = false) {own cls text : String} {names : List String} {ik is ic mc ms sa : Nat} {A : Nat → Prop}
    (hown : s.vm.findClass own = some m.cls) (hcls : Bundle.fit cls = true) (hnames : ∀ n ∈ names, Bundle.fit n = true)
    (hk : (Cond.classLink own ik cls).before args s = true) (hini : (Cond.initialized cls).before args s = true) (hstr : vk_R own is text sa s) (hat : ∀ w ∈ vx_atS own ic cls names, w.before args s = true)
    (hgood : ∀ w ∈ Cond.classLink own ik cls :: Cond.initialized cls :: vx_atS own ic cls names, vx_ot w = true)
    (hU : vx_Zq Bundle.tN "UNASSIGNED_STACK" Bundle.steD A s s.heap) (hN : vx_Zq Bundle.tN "SUPPRESSED_SENTINEL" Bundle.listD A s s.heap) (hS : va_S A s.heap H locs) (hsize : ls.size = c.maxLocals)
    (d0 : decode cc pc = .ok (.new ik, 3)) (d3 : decode cc (pc + 3) = .ok (.dup, 1)) (d4 : decode cc (pc + 4) = .ok (.ldc is, 2)) (d6 : decode cc (pc + 6) = .ok (.invokespecial ic, 3)) (d9 : decode cc (pc + 9) = .ok (.athrow, 1))
    (hout : ∀ x ∈ c.exceptionTable.toList, covers x (pc + 9) = false)
    (hRframes : names.length + 3 < R.frames) (hRlocals : (rest.map fun v => v.category).sum + (13 * (names.length + 1) + 43) ≤ R.locals) (hRcells : cells + 1 ≤ R.cells) (hRslots : slots + 6 ≤ R.slots) (hlocks : meth.locks = false)
    (hx : ∀ t : State, s.vm.Alike t.vm → H.size ≤ t.heap.size → (∀ q : Nat, q < H.size → t.heap[q]? = H[q]?) → XC cls s t)
    (hf : ∀ z ∈ locs, free z.base) (hc : cells + 1 ≤ mc) (hs : slots + 6 ≤ ms) :
    W p l e R s m args below meth c H locs cells slots (vx_MQ below Qc XC args s mc ms free) (F0 m pc ls rest) := by
  intro T hT X
  have htr : e.platform.stackTraces = false := (show e.platform.stackTraces = l.stackTraces by rw [X.admits.platform]).trans hl
  have Y := vx_rebase X (R' := { frames := R.frames, locals := R.locals, cells := 1, slots := 6 }) (Nat.le_refl _) (Nat.le_refl _) hRcells hRslots
  obtain ⟨s', hA⟩ : ∃ z, z = (T.setVm s.vm).setFrames (.invoking m args :: below) := ⟨_, rfl⟩
  rw [← hA] at Y
  have hvm : s'.vm = s.vm := by rw [hA]; rfl
  have hhp : s'.heap = H := by rw [hA]; exact hT
  have hW0 : s.WarmedH s'.vm := by rw [hvm]; exact State.WarmedH.refl s
  have hat' : ∀ w ∈ vx_atS own ic cls names, w.before args s' = true := fun w hw => vx_ot_at hW0 hvm.symm (hgood w (List.mem_cons_of_mem _ (List.mem_cons_of_mem _ hw))) (hat w hw)
  have hk' : (Cond.classLink own ik cls).before args s' = true := vx_ot_at hW0 hvm.symm (hgood _ List.mem_cons_self) hk
  have hini' : (Cond.initialized cls).before args s' = true := vx_ot_at hW0 hvm.symm (hgood _ (List.mem_cons_of_mem _ List.mem_cons_self)) hini
  have hU' : vx_Zq Bundle.tN "UNASSIGNED_STACK" Bundle.steD A s' s'.heap := by rw [hhp]; exact vx_Zq.moved hW0.alike (hU.kept hS.2.1)
  have hN' : vx_Zq Bundle.tN "SUPPRESSED_SENTINEL" Bundle.listD A s' s'.heap := by rw [hhp]; exact vx_Zq.moved hW0.alike (hN.kept hS.2.1)
  have h : ∀ w ∈ Bundle.ownAtoms own ic cls names, w.before args s' = true := vx_own hat' (vx_isRefq hU'.1) (vx_isRefq hN'.1) hU'.2.word hN'.2.word
  have hown' : s'.vm.findClass own = some m.cls := by rw [hvm]; exact hown
  have hins : (Cond.instantiable cls 6).before args s' = true := h _ (by simp [Bundle.ownAtoms])
  obtain ⟨vm₁, cX, kX, hfX, hkX, -, -, X₁, st1⟩ := Y.newCold hexec (own := own) (C := cls) (index := ik) (n := 6) hown' hk' hins hini'
    (g := F0 m pc ls rest) rfl (by rw [hb]; exact d0) (Nat.le_refl _) (Nat.le_refl _)
  generalize hT1 : (T.setVm vm₁).pushCell { cls := cX, slots := kX.instanceTypes.map defaultValue, vm := .none } = T1 at X₁ st1
  have hcat : (Value.ref T.heap.size).category = 1 := rfl
  have hcellA : T1.heap[T.heap.size]? = some (freshCell cX kX) := by rw [← hT1]; exact State.heap_pushCell_size _ _
  have d3' : decode c.code (pc + 3) = .ok (.dup, 1) := by rw [hb]; exact d3
  have d4' : decode c.code (pc + 4) = .ok (.ldc is, 2) := by rw [hb]; exact d4
  have hstr' : vk_R own is text sa s' := vk_R.warm hW0 hstr
  obtain ⟨U, hsteps, hrun, hend, hW, hsame, ce, hce, hO⟩ := X₁.ctorThrowS hexec htr (own := own) (cls := cls) (names := names) (ic := ic) hown' hcls hnames h (fun x hx => nomatch hx) hfX hkX hcellA (by rw [hhp, hT]; exact Nat.le_refl _) (msg := .ref sa) rfl
    (g := { method := m, pc := pc + 6, locals := ls, stack := .ref sa :: .ref T.heap.size :: .ref T.heap.size :: rest, locked := none }) rfl hsize rfl rfl (rest := rest) rfl
    (by rw [hb]; exact d6) (by rw [hb]; exact d9) hout hRframes (by simp only [List.map_cons, List.sum_cons, hcat]; omega) hlocks
  obtain ⟨f1, f2⟩ := vx_frame hsame
  rw [hhp] at f1 f2
  have hWs : s.WarmedH U.vm := State.WarmedH.trans hW0 hW
  have hcl : s.vm.findClass cls = some ce.cls := by
    have h9 := hO.cls
    rw [hvm] at h9
    exact h9
  have hall : s.sameButNew ({ U with vm := s.vm } : State) locs mc ms := by
    subst hA
    obtain ⟨e1, e2⟩ := hsame
    rw [State.setFrames_setFrames] at e1
    have h2 : (T.setVm s.vm).sameButNew ({ U with vm := s.vm } : State) [] (0 + 1) (0 + 6) := ⟨e1, e2⟩
    have h3 := X.same.trans h2
    rw [List.append_nil] at h3
    exact h3.mono hc hs
  refine ⟨U, ?_, .threw T.heap.size, hrun, hend, Or.inr ⟨T.heap.size, rfl, cls, ce, locs, hx U hWs.alike f1 (fun q hq => f2 q hq (fun z hz => nomatch hz)), hce, hO.vm, hcl, hWs, hall, hf⟩⟩
  refine st1 _ ?_
  show Steps p.tables e below (T1.setTop { method := m, pc := pc + 3, locals := ls, stack := .ref T.heap.size :: rest, locked := none }) _
  jvm_step X₁.here [X₁.here.top, hexec, d3', Value.category]
  exact X₁.ldcString hexec (own := own) (text := text) (index := is) (a := sa) hown' hstr'.1 hstr'.2
    (g := { method := m, pc := pc + 4, locals := ls, stack := .ref T.heap.size :: .ref T.heap.size :: rest, locked := none }) rfl d4' _ hsteps
/-- 'throw new E("text")', the text by a wide index -/
theorem vx_throwSW {cc : ByteArray} {pc : Nat} (hexec : p.tables.exec = Jvm.exec) (hb : c.code = cc) (hl : l.stackTraces = false) {own cls text : String} {names : List String} {ik is ic mc ms sa : Nat} {A : Nat → Prop}
    (hown : s.vm.findClass own = some m.cls) (hcls : Bundle.fit cls = true) (hnames : ∀ n ∈ names, Bundle.fit n = true)
    (hk : (Cond.classLink own ik cls).before args s = true) (hini : (Cond.initialized cls).before args s = true) (hstr : vk_R own is text sa s) (hat : ∀ w ∈ vx_atS own ic cls names, w.before args s = true)
    (hgood : ∀ w ∈ Cond.classLink own ik cls :: Cond.initialized cls :: vx_atS own ic cls names, vx_ot w = true)
    (hU : vx_Zq Bundle.tN "UNASSIGNED_STACK" Bundle.steD A s s.heap) (hN : vx_Zq Bundle.tN "SUPPRESSED_SENTINEL" Bundle.listD A s s.heap) (hS : va_S A s.heap H locs) (hsize : ls.size = c.maxLocals)
    (d0 : decode cc pc = .ok (.new ik, 3)) (d3 : decode cc (pc + 3) = .ok (.dup, 1)) (d4 : decode cc (pc + 4) = .ok (.ldc_w is, 3)) (d7 : decode cc (pc + 7) = .ok (.invokespecial ic, 3)) (d10 : decode cc (pc + 10) = .ok (.athrow, 1))
    (hout : ∀ x ∈ c.exceptionTable.toList, covers x (pc + 10) = false)
    (hRframes : names.length + 3 < R.frames) (hRlocals : (rest.map fun v => v.category).sum + (13 * (names.length + 1) + 43) ≤ R.locals) (hRcells : cells + 1 ≤ R.cells) (hRslots : slots + 6 ≤ R.slots) (hlocks : meth.locks = false)
    (hx : ∀ t : State, s.vm.Alike t.vm → H.size ≤ t.heap.size → (∀ q : Nat, q < H.size → t.heap[q]? = H[q]?) → XC cls s t)
    (hf : ∀ z ∈ locs, free z.base) (hc : cells + 1 ≤ mc) (hs : slots + 6 ≤ ms) :
    W p l e R s m args below meth c H locs cells slots (vx_MQ below Qc XC args s mc ms free) (F0 m pc ls rest) := by
  intro T hT X
  have htr : e.platform.stackTraces = false := (show e.platform.stackTraces = l.stackTraces by rw [X.admits.platform]).trans hl
  have Y := vx_rebase X (R' := { frames := R.frames, locals := R.locals, cells := 1, slots := 6 }) (Nat.le_refl _) (Nat.le_refl _) hRcells hRslots
  obtain ⟨s', hA⟩ : ∃ z, z = (T.setVm s.vm).setFrames (.invoking m args :: below) := ⟨_, rfl⟩
  rw [← hA] at Y
  have hvm : s'.vm = s.vm := by rw [hA]; rfl
  have hhp : s'.heap = H := by rw [hA]; exact hT
  have hW0 : s.WarmedH s'.vm := by rw [hvm]; exact State.WarmedH.refl s
  have hat' : ∀ w ∈ vx_atS own ic cls names, w.before args s' = true := fun w hw => vx_ot_at hW0 hvm.symm (hgood w (List.mem_cons_of_mem _ (List.mem_cons_of_mem _ hw))) (hat w hw)
  have hk' : (Cond.classLink own ik cls).before args s' = true := vx_ot_at hW0 hvm.symm (hgood _ List.mem_cons_self) hk
  have hini' : (Cond.initialized cls).before args s' = true := vx_ot_at hW0 hvm.symm (hgood _ (List.mem_cons_of_mem _ List.mem_cons_self)) hini
  have hU' : vx_Zq Bundle.tN "UNASSIGNED_STACK" Bundle.steD A s' s'.heap := by rw [hhp]; exact vx_Zq.moved hW0.alike (hU.kept hS.2.1)
  have hN' : vx_Zq Bundle.tN "SUPPRESSED_SENTINEL" Bundle.listD A s' s'.heap := by rw [hhp]; exact vx_Zq.moved hW0.alike (hN.kept hS.2.1)
  have h : ∀ w ∈ Bundle.ownAtoms own ic cls names, w.before args s' = true := vx_own hat' (vx_isRefq hU'.1) (vx_isRefq hN'.1) hU'.2.word hN'.2.word
  have hown' : s'.vm.findClass own = some m.cls := by rw [hvm]; exact hown
  have hins : (Cond.instantiable cls 6).before args s' = true := h _ (by simp [Bundle.ownAtoms])
  obtain ⟨vm₁, cX, kX, hfX, hkX, -, -, X₁, st1⟩ := Y.newCold hexec (own := own) (C := cls) (index := ik) (n := 6) hown' hk' hins hini'
    (g := F0 m pc ls rest) rfl (by rw [hb]; exact d0) (Nat.le_refl _) (Nat.le_refl _)
  generalize hT1 : (T.setVm vm₁).pushCell { cls := cX, slots := kX.instanceTypes.map defaultValue, vm := .none } = T1 at X₁ st1
  have hcat : (Value.ref T.heap.size).category = 1 := rfl
  have hcellA : T1.heap[T.heap.size]? = some (freshCell cX kX) := by rw [← hT1]; exact State.heap_pushCell_size _ _
  have d3' : decode c.code (pc + 3) = .ok (.dup, 1) := by rw [hb]; exact d3
  have d4' : decode c.code (pc + 4) = .ok (.ldc_w is, 3) := by rw [hb]; exact d4
  have hstr' : vk_R own is text sa s' := vk_R.warm hW0 hstr
  obtain ⟨U, hsteps, hrun, hend, hW, hsame, ce, hce, hO⟩ := X₁.ctorThrowS hexec htr (own := own) (cls := cls) (names := names) (ic := ic) hown' hcls hnames h (fun x hx => nomatch hx) hfX hkX hcellA (by rw [hhp, hT]; exact Nat.le_refl _) (msg := .ref sa) rfl
    (g := { method := m, pc := pc + 7, locals := ls, stack := .ref sa :: .ref T.heap.size :: .ref T.heap.size :: rest, locked := none }) rfl hsize rfl rfl (rest := rest) rfl
    (by rw [hb]; exact d7) (by rw [hb]; exact d10) hout hRframes (by simp only [List.map_cons, List.sum_cons, hcat]; omega) hlocks
  obtain ⟨f1, f2⟩ := vx_frame hsame
  rw [hhp] at f1 f2
  have hWs : s.WarmedH U.vm := State.WarmedH.trans hW0 hW
  have hcl : s.vm.findClass cls = some ce.cls := by
    have h9 := hO.cls
    rw [hvm] at h9
    exact h9
  have hall : s.sameButNew ({ U with vm := s.vm } : State) locs mc ms := by
    subst hA
    obtain ⟨e1, e2⟩ := hsame
    rw [State.setFrames_setFrames] at e1
    have h2 : (T.setVm s.vm).sameButNew ({ U with vm := s.vm } : State) [] (0 + 1) (0 + 6) := ⟨e1, e2⟩
    have h3 := X.same.trans h2
    rw [List.append_nil] at h3
    exact h3.mono hc hs
  refine ⟨U, ?_, .threw T.heap.size, hrun, hend, Or.inr ⟨T.heap.size, rfl, cls, ce, locs, hx U hWs.alike f1 (fun q hq => f2 q hq (fun z hz => nomatch hz)), hce, hO.vm, hcl, hWs, hall, hf⟩⟩
  refine st1 _ ?_
  show Steps p.tables e below (T1.setTop { method := m, pc := pc + 3, locals := ls, stack := .ref T.heap.size :: rest, locked := none }) _
  jvm_step X₁.here [X₁.here.top, hexec, d3', Value.category]
  exact X₁.ldcStringW hexec (own := own) (text := text) (index := is) (a := sa) hown' hstr'.1 hstr'.2
    (g := { method := m, pc := pc + 4, locals := ls, stack := .ref T.heap.size :: .ref T.heap.size :: rest, locked := none }) rfl d4' _ hsteps
end Ends
section Bodies
variable {l : Launch}
theorem vx_ofW {y : MethodName} {ws ws' : List Cond} {rm : Room} {Pc : Array Value → State → Prop} {Qc : Array Value → State → Outcome → State → Prop} {XC : String → State → State → Prop} {mc ms : Nat} {free : Addr → Prop} {cc : ByteArray} {maxL : Nat} {ret : Option FieldType}
    (hy : plainName y.cls = true) (hw : ws = Cond.code y cc maxL ret :: ws')
    (body : ∀ p e s m args below meth c s₁, BodyLoose p l y (headSpec ws rm) cc maxL ret e s m args below meth c s₁ → c.maxLocals = maxL → (∀ x ∈ c.exceptionTable.toList, False) → Pc args s →
      W p l e (headSpec ws rm).room s m args below meth c s.heap [] 0 0 (vx_MQ below Qc XC args s mc ms free) (entryFrame m args maxL)) : vx_Met l y ws rm Pc Qc XC mc ms free := by
  refine MetFree.of_bodyS (code := cc) (maxLocals := maxL) (ret := ret) hy ?_ ?_
  · intro args s m h hn
    obtain ⟨meth, c, h1, h2, h3, h4, h5, h6, -, -⟩ := Cond.code_spec hn (atoms_spec (ws := ws) h _ (by rw [hw]; exact List.mem_cons_self))
    exact ⟨meth, c, h1, h2, h3, h4, h5, h6⟩
  · intro p e s m args below meth c s₁ B hml hP _
    have hh0 : s₁.heap = s.heap := by rw [B.state]; rfl
    have ht : ∀ x ∈ c.exceptionTable.toList, False := by
      obtain ⟨meth9, c9, h1, h2, -, -, -, -, h7, -⟩ := Cond.code_spec B.named (atoms_spec (ws := ws) B.pre _ (by rw [hw]; exact List.mem_cons_self))
      cases Option.some.inj (h1.symm.trans B.method)
      cases Option.some.inj (h2.symm.trans (Stand.of_body B).code)
      intro x hx
      rw [Array.isEmpty_iff.mp h7] at hx
      cases hx
    obtain ⟨t, a1, o, b1, b2, b3⟩ := body p e s m args below meth c s₁ B hml ht hP s₁ hh0 (Stand.of_body B)
    exact ⟨t, o, a1, b1, b2, b3⟩
/-- the table of a body with handlers -/
theorem vx_table {p : Program} {x y : MethodName} {S : Spec} {cc bytes : ByteArray} {maxL maxL' : Nat} {ret ret' : Option FieldType} {e : Env} {s s₁ : State} {m : MethodId} {args : Array Value} {below : List Frame} {meth : Method} {c : Code} {hh : List (Nat × Nat × Nat × Nat)}
    (B : BodyLoose p l y S cc maxL ret e s m args below meth c s₁) (h : (Cond.codeWith y bytes maxL' ret' hh).before args s = true) : c.exceptionTable.toList = tableOf hh := by
  obtain ⟨m9, meth9, c9, hn9, h1, h2, -, -, h6, -⟩ := Cond.codeWith_spec h
  cases Option.some.inj (hn9.symm.trans B.named)
  cases Option.some.inj (h1.symm.trans B.method)
  cases Option.some.inj (h2.symm.trans (Stand.of_body B).code)
  rw [← h6, table_eq]
end Bodies
end VXA
/-! ===== END ===== -/
/-! ===== BEGIN a static call of a method with an exception table ===== -/
section VXS
variable {p : Program} {l : Launch} {e : Env} {R : Room} {s : State} {m : MethodId} {args : Array Value} {below : List Frame} {meth : Method} {c : Code} {T : State} {H : Heap} {locs : List Loc} {cells slots : Nat}
abbrev vx_CSW (R : Room) (s : State) (args : Array Value) (own : String) (index : Nat) (y : MethodName) (bytes : ByteArray) (maxL : Nat) (ret : Option FieldType) (hh : List (Nat × Nat × Nat × Nat)) (ws : List Cond) (rm : Room) (mc ms n : Nat) : Prop :=
  (rm.cells = mc ∧ rm.slots = ms ∧ rm.frames + 1 ≤ R.frames ∧ 8 + (maxL + 11) + rm.locals ≤ R.locals ∧ (∀ w ∈ ws, ∀ (a' : Array Value) (U : State), s.WarmedH U.vm → w.before a' U = true) ∧ Cond.codeWith y bytes maxL ret hh ∈ ws) ∧
  (Cond.codeWith y bytes maxL ret hh).before args s = true ∧ (Cond.initialized y.cls).before args s = true ∧ (y.cls ≠ "java/lang/invoke/MethodHandle" ∧ y.cls ≠ "java/lang/invoke/VarHandle") ∧
  (∀ sig, parseMethodDescriptor y.desc = some sig → n = sig.parameters.length) ∧ (Cond.methodLink own index y).before args s = true ∧ (Cond.static y).before args s = true
theorem vx_cwSW {own : String} {index maxL mc ms : Nat} {y : MethodName} {bytes : ByteArray} {ret : Option FieldType} {hh : List (Nat × Nat × Nat × Nat)} {Ts ws ws' : List Cond} {rm : Room} (n : Nat) (ht : ∀ w ∈ Ts, w.before args s = true) (hT : GoodIn Ts (va_wsS own index y ws)) (hw : ws = Cond.codeWith y bytes maxL ret hh :: ws') (hrc : rm.cells = mc) (hrs : rm.slots = ms)
    (hd : y.cls ≠ "java/lang/invoke/MethodHandle" ∧ y.cls ≠ "java/lang/invoke/VarHandle" ∧ (parseMethodDescriptor y.desc).map (fun d => d.parameters.length) = some n) (hR : rm.frames + 1 ≤ R.frames ∧ 8 + (maxL + 11) + rm.locals ≤ R.locals) :
    vx_CSW R s args own index y bytes maxL ret hh ws rm mc ms n := by
  have ok : ∀ w ∈ va_wsS own index y ws, w.before args s = true := fun w h => ht w (hT w h).1
  have hG : GoodIn Ts ws := fun w h => hT w (by unfold va_wsS; exact List.mem_append_right _ h)
  have hc : Cond.codeWith y bytes maxL ret hh ∈ ws := by rw [hw]; exact List.mem_cons_self
  refine ⟨⟨hrc, hrs, hR.1, hR.2, pay_in ht hG, hc⟩, ht _ (hG _ hc).1, ok _ (by simp [va_wsS]), ⟨hd.1, hd.2.1⟩, fun sig h => ?_, ok _ (by simp [va_wsS]), ok _ (by simp [va_wsS])⟩
  have h2 := hd.2.2
  rw [h] at h2
  exact (Option.some.inj h2).symm
theorem vx_callSW (X : Stand p l e R s m args below meth c T locs cells slots) (hexec : p.tables.exec = Jvm.exec) {own : String} {index : Nat} {y : MethodName} {bytes : ByteArray} {maxL : Nat} {ret : Option FieldType} {hh : List (Nat × Nat × Nat × Nat)}
    (hown : s.vm.findClass own = some m.cls) (hlink : (Cond.methodLink own index y).before args s = true) (hstat : (Cond.static y).before args s = true) (hinit : (Cond.initialized y.cls).before args s = true)
    (hcode : (Cond.codeWith y bytes maxL ret hh).before args s = true) (hy : y.cls ≠ "java/lang/invoke/MethodHandle" ∧ y.cls ≠ "java/lang/invoke/VarHandle")
    {W9 : Nat} {Pre : Pt → Array Value → Prop} {Post : Pt → Array Value → Option Value → Pt → Prop} (hK : Back l R p e below s args y 3 W9 Pre Post)
    {g : JFrame} (hg : g.method = m) (hsize : g.locals.size = c.maxLocals) {argsL rest : List Value} (hlen : ∀ sig, parseMethodDescriptor y.desc = some sig → argsL.length = sig.parameters.length)
    (hstack : g.stack = argsL.reverse ++ rest) (hW : 2 * g.monitorRoom + (rest.map fun v => v.category).sum ≤ W9) (hdg : decode c.code g.pc = .ok (.invokestatic index, 3))
    (hpre : ∀ vm₁, s.WarmedH vm₁ → Pre ⟨T.setVm vm₁, locs, cells, slots⟩ argsL.toArray) :
    ∃ (v : Option Value) (vm₁ : Vm) (B : Pt), s.WarmedH vm₁ ∧ Stand p l e R s m args below meth c B.U B.locs B.cells B.slots ∧ Post ⟨T.setVm vm₁, locs, cells, slots⟩ argsL.toArray v B ∧
      ∀ target, Steps p.tables e below (B.U.setTop { g with pc := g.pc + 3, stack := v.toList ++ rest }) target → Steps p.tables e below (T.setTop g) target := by
  obtain ⟨mk, methM, cM, hnamed, hmethM, -, -, -, -, -, -, hsigM⟩ := Cond.codeWith_spec hcode
  have hstatic : methM.isStatic = true := Cond.static_spec hnamed hmethM hstat
  obtain ⟨kP, hkP, -⟩ := className_of_methodNamed hnamed
  have hinitP : kP.init = .initialized := Cond.initialized_spec (findClass_of_methodNamed hnamed) hkP hinit
  obtain ⟨vm₁, X₁, hstep₁⟩ := X.invokestatic hexec hown hlink hnamed hmethM hstatic hkP hinitP hy (g := g) hg (argsL := argsL) (rest := rest) (hlen _ hsigM) hstack hdg
  obtain ⟨v, B, X', hpost, hsteps⟩ := hK m meth c ⟨T.setVm vm₁, locs, cells, slots⟩ { g with stack := rest } (.invokestatic index) mk argsL.toArray X₁ hg hsize hdg hW (X₁.named hnamed) (hpre vm₁ X₁.warmed)
  exact ⟨v, vm₁, B, X₁.warmed, X', hpost, fun target h => hstep₁ _ fun acts => by rw [doInvoke_state]; exact hsteps.trans h⟩
theorem vx_runSW {y : MethodName} {bytes cc : ByteArray} {maxL nL mc ms n index : Nat} {ret : Option FieldType} {hh : List (Nat × Nat × Nat × Nat)} {ws : List Cond} {rm : Room} {Pc : Array Value → State → Prop} {Qc : Array Value → State → Outcome → State → Prop} {free : Addr → Prop} {Ts : List Cond} {own : String} {As rest : List Value} {g : JFrame}
    (S : CallFix p m c cc nL s args Ts own) (hM : Met l y ws rm Pc Qc mc ms free) (cw : vx_CSW R s args own index y bytes maxL ret hh ws rm mc ms n) (hp : PreS s H Pc As)
    (hg : g.method = m) (hn : As.length = n) (hsize : g.locals.size = nL) (hstack : g.stack = As.reverse ++ rest) (hW : 2 * g.monitorRoom + (rest.map fun v => v.category).sum ≤ 8) (hdg : decode cc g.pc = .ok (.invokestatic index, 3)) (hf : cells + mc ≤ R.cells ∧ slots + ms ≤ R.slots) :
    va_Run p l e R s m args below meth c H locs cells slots mc ms g rest (Qc As.toArray) (free) := by
  obtain ⟨⟨hrc, hrs, hfr, hlo, hws, hcw⟩, hcode, hini, hy, hlen, hl, hstt⟩ := cw
  have hK : Back l R p e below s args y 3 8 (PreOf R mc ms Pc) (PostOf Qc mc ms free) := va_backW (hh := hh) (bytes := bytes) (maxL := maxL) (ret := ret) hM hp.1 hrc hrs hfr hlo hws hcw (fun a' U hW => word_at hW (Or.inl (by first | rfl | simp [Cond.onTables, Cond.keeps, Cond.steady])) hini)
  obtain ⟨hx, hb, hml, ho, -⟩ := S
  intro T hT X
  obtain ⟨v, vm₁, ⟨U', l2, c2, s2⟩, hW₁, X', ⟨g', mk, t, L, e1, e2, hq, h1, hL, h2, h3⟩, st⟩ := vx_callSW X hx (hh := hh) (bytes := bytes) (maxL := maxL) (ret := ret) ho hl hstt hini hcode hy hK hg (hsize.trans hml.symm) (argsL := As) (rest := rest) (fun sig h => hn.trans (hlen sig h)) hstack hW (by rw [hb]; exact hdg)
    (fun vm₁ hW₁ => ⟨hf.1, hf.2, hp.2 (T.setVm vm₁) hT hW₁⟩)
  dsimp only [Pt.U, Pt.locs, Pt.cells, Pt.slots] at X' e1 e2 h1 h2 h3 st
  subst h1; subst h2; subst h3
  exact ⟨v, (T.setVm vm₁).calling g' mk As.toArray, t, U', L, hT, X', hL, e1, e2, hq, st⟩
/-- not caught here, past rows that name other classes: it goes on to the caller -/
theorem vx_outP {p : Program} {l : Launch} {e : Env} {R : Room} {s : State} {m : MethodId} {args : Array Value} {below : List Frame} {meth : Method} {c : Code} {H : Heap} {locs : List Loc} {cells slots : Nat} {free : Addr → Prop} {ls : Array Slot} {rest : List Value} {Qc : Array Value → State → Outcome → State → Prop} {XC : String → State → State → Prop}
    {pc : Nat} {own E : String} {ce : Cell} {q : Addr} {mc ms : Nat} (hown : s.vm.findClass own = some m.cls) (hlocks : meth.locks = false)
    (hpass : ∀ z ∈ c.exceptionTable.toList, covers z pc = false ∨ (z.catchType ≠ 0 ∧ ∃ nm : String, (Cond.classLink own z.catchType nm).before args s = true ∧ va_Nc E nm s)) (hcell : H[q]? = some ce) (hv : ce.vm = .none) (hcl : s.vm.findClass E = some ce.cls)
    (hx : ∀ t : State, t.heap = H → s.vm.Alike t.vm → XC E s t) (hf : ∀ z ∈ locs, free z.base) (hc : cells ≤ mc) (hs : slots ≤ ms) :
    vx_W p l e R s m args below meth c H locs cells slots (vx_MQ below Qc XC args s mc ms free) (F0 m pc ls rest) q := by
  intro T hT X
  have hpl : e.platform.magicAccessors = ({} : Platform).magicAccessors := by rw [X.admits.platform]
  obtain ⟨vm', hW', X', st⟩ := X.outThrough hlocks q (g := F0 m pc ls rest) rfl rfl rfl (cell := ce) (by rw [hT]; exact hcell) (by rw [hv]; rfl)
    (by obtain ⟨k9, h9, -⟩ := Vm.findClass_spec hcl; exact ⟨k9, h9⟩) (fun z hz => by
      rcases hpass z hz with h | ⟨hz0, nm, hl1, hn1⟩
      · exact Or.inl h
      · obtain ⟨c6, hc6, hcl6⟩ := Cond.classLink_spec hown hl1 e.platform hpl
        obtain ⟨a8, b8, h1, h2, h3⟩ := hn1
        cases Option.some.inj (h1.symm.trans hcl)
        cases Option.some.inj (h2.symm.trans hc6)
        exact Or.inr ⟨hz0, _, hcl6, h3⟩)
  obtain ⟨g₀, hfr⟩ := X'.frames_eq
  have hcell9 : ((T.setVm vm').setFrames (.throwing q :: below)).heap[q]? = some ce := by
    show T.heap[q]? = some ce
    rw [hT]; exact hcell
  have hend : Ended ((T.setVm vm').setFrames (.throwing q :: below)) below (.threw q) := State.frames_setFrames _ (State.cur_lt_of_frames hfr)
  refine ⟨(T.setVm vm').setFrames (.throwing q :: below), ?_, .threw q, X'.here.running, hend, Or.inr ⟨q, rfl, E, ce, locs, hx _ hT (X'.ends _).1.alike, hcell9, hv, hcl, (X'.ends _).1, (X'.ends _).2.mono hc hs, hf⟩⟩
  rw [X.pushThrowing_eq]
  exact st
/-- a thing of a world lies in the heap -/
theorem vx_lt {D : va_G} {cl : List vw_C} {ws : va_W} {H1 : Heap} (h : va_P D cl ws H1) {k : Nat} {q : Nat × va_E} (hk : ws[k]? = some q) : q.1 < H1.size := (h k q hk).lt
end VXS
/-! ===== END ===== -/
/-! ===== BEGIN methods with a table of their own: called by a name, returning or throwing ===== -/
section VXH
/-! vx_backW, vx_callVX, vx_callSX, vx_callVW, vx_runVW, vx_runVX, vx_runSX, vx_ofWH follow the same proofs as their sisters above (Free/Laws.lean, Shelf42/LK1.lean); vx_outP calls Shelf42/NT130.lean (outThrough). -/
section
variable {l : Launch} {R : Room} {p : Program} {e : Env} {below : List Frame} {s : State} {sargs : Array Value} {y : MethodName} {len W9 : Nat}
theorem vx_backW {ws : List Cond} {rm : Room} {Pc : Array Value → State → Prop} {Qc : Array Value → State → Outcome → State → Prop} {XC : String → State → State → Prop} {mc ms : Nat} {free : Addr → Prop} {bytes : ByteArray} {maxL : Nat} {ret : Option FieldType} {hh : List (Nat × Nat × Nat × Nat)}
    (hM : vx_Met l y ws rm Pc Qc XC mc ms free) (hblind : FrameBlind Pc) (hrc : rm.cells = mc) (hrs : rm.slots = ms)
    (hframes : rm.frames + 1 ≤ R.frames) (hlocals : W9 + (maxL + 11) + rm.locals ≤ R.locals)
    (hws : ∀ w ∈ ws, ∀ a' U, s.WarmedH U.vm → w.before a' U = true) (hcode : Cond.codeWith y bytes maxL ret hh ∈ ws) (hinit : ∀ a' U, s.WarmedH U.vm → (Cond.initialized y.cls).before a' U = true) :
    vx_Back l R p e below s sargs y len W9 (PreOf R mc ms Pc) (PostOf Qc mc ms free) (vx_Post XC mc ms free) := by
  intro m meth c A g ig mk a X hg hsize hdg hW hn hp
  have h1 : (headSpec ws rm).pre.before a A.U = true := atoms_intro fun w hw => hws w hw _ _ X.warmed
  have h2 : (Cond.codeWith y bytes maxL ret hh).before a A.U = true := hws _ hcode _ _ X.warmed
  have h3 : (Cond.initialized y.cls).before a A.U = true := hinit _ _ X.warmed
  have h4 : A.cells + (headSpec ws rm).room.cells ≤ R.cells := by rw [show (headSpec ws rm).room.cells = mc from hrc]; exact hp.1
  have h5 : A.slots + (headSpec ws rm).room.slots ≤ R.slots := by rw [show (headSpec ws rm).room.slots = ms from hrs]; exact hp.2.1
  have hPc : Pc a (A.U.calling g mk a) := hblind _ _ _ _ hp.2.2
  obtain ⟨U, Ls, c0, s0⟩ := A
  dsimp only [Pt.U, Pt.locs, Pt.cells, Pt.slots] at h1 h2 h3 h4 h5 X hn hPc ⊢
  obtain ⟨m9, methY, cY, hn9, hmY, hcY, -, hlY, -⟩ := Cond.codeWith_spec h2
  cases Option.some.inj (hn9.symm.trans hn)
  obtain ⟨kY, hkY, -⟩ := className_of_methodNamed hn
  have hinitY : kY.init = .initialized := Cond.initialized_spec (findClass_of_methodNamed hn) hkY h3
  have h : At U g.method c below := by rw [hg]; exact X.here
  have hlocals9 : W9 + (maxL + 11) + (headSpec ws rm).room.locals ≤ R.locals := hlocals
  have happ : (headSpec ws rm).appliesLoose y e.platform (U.calling g mk a) = true :=
    Spec.appliesLoose_calling (g := g) h hdg hn hkY hinitY
      (X.room_calling (g := g) (R' := (headSpec ws rm).room) hsize hmY hcY hframes (by rw [hlY]; omega) h4 h5) h1
  obtain ⟨mid, hmid⟩ := h.above
  have hfr : (U.setTop g).frames = (.java g :: mid) ++ below := by rw [State.frames_setTop' g h.top, hmid]; rfl
  obtain ⟨o, s₂, hsteps, -, hend, hq⟩ := Steps.callFree hM p X.admits X.cas X.clock (acts := []) hfr happ hPc trivial
  have hq' : vx_Q Qc XC mc ms free a (U.calling g mk a) o s₂ := hq
  rw [State.frames_setTop' g h.top] at hend
  obtain ⟨g₀, hg0⟩ := Option.isSome_iff_exists.mp h.top
  obtain ⟨r, hr⟩ := State.topJava?_eq_some.mp hg0
  have hr' : (({ U with heap := s₂.heap, slotsUsed := s₂.slotsUsed } : State).setVm s₂.vm).frames = .java g₀ :: r := hr
  rcases hq' with ⟨hqc, L, hfe, hL⟩ | ⟨q, rfl, E, ce, L, hx, hce, hcv, hcl, hW₂, hsm, hL⟩
  · obtain ⟨⟨v, rfl⟩, hW₂, e2, q2, q3, q4, q5, q6⟩ := id hfe
    have e3 : s₂ = ({ (U.calling g mk a).setFrames s₂.frames with heap := s₂.heap, slotsUsed := s₂.slotsUsed } : State).setVm s₂.vm := by
      have : s₂ = ({ s₂ with vm := (U.calling g mk a).vm } : State).setVm s₂.vm := rfl
      rw [e2] at this
      exact this
    obtain ⟨c₂, i₂, len₂, hc₂, hd₂, hf₂⟩ := hend
    have hW' : U.WarmedH s₂.vm := hW₂
    have hcc : c₂ = c := by
      have h1 : s₂.code? g.method = U.code? g.method := by
        rw [State.code?_eq, State.code?_eq, hW'.alike.method?]
      exact Option.some.inj (hc₂.symm.trans (h1.trans h.code))
    subst hcc
    have hlen : len₂ = len := by rw [hdg] at hd₂; cases hd₂; rfl
    subst hlen
    have hs₂ : s₂ = (({ U with heap := s₂.heap, slotsUsed := s₂.slotsUsed } : State).setVm s₂.vm).setTop { g with pc := g.pc + len₂, stack := v.toList ++ g.stack } := by
      refine e3.trans ?_
      rw [hf₂, State.calling_eq h.top, State.setFrames_setFrames, State.setTop_of_frames _ hr', hr]
      rfl
    have hsame : U.sameButNew ({ U with heap := s₂.heap, slotsUsed := s₂.slotsUsed } : State) L mc ms := by
      refine ⟨?_, q2, q3, q4, q5, q6⟩
      obtain ⟨t, ht, -⟩ := State.frames_cons hr
      show ({ U with heap := s₂.heap, slotsUsed := s₂.slotsUsed } : State) = { U.setFrames U.frames with heap := s₂.heap, slotsUsed := s₂.slotsUsed }
      rw [State.setFrames_self ht]
    subst hg
    refine Or.inl ⟨v, ⟨(({ U with heap := s₂.heap, slotsUsed := s₂.slotsUsed } : State).setVm s₂.vm), Ls ++ L, c0 + mc, s0 + ms⟩,
      ⟨X.admits, X.cas, X.clock, X.frames, X.room, X.hears, X.method, X.code, (X.here.setHeapUsed s₂.heap s₂.slotsUsed).setVm hW'.alike, X.tail, State.WarmedH.trans X.warmed hW', X.limits, X.bytes, X.same.trans (hsame.setVm s.vm)⟩,
      ⟨g, mk, s₂, L, rfl, rfl, hqc, rfl, hL, rfl, rfl⟩, ?_⟩
    show Steps p.tables e below _ ((({ U with heap := s₂.heap, slotsUsed := s₂.slotsUsed } : State).setVm s₂.vm).setTop { g with pc := g.pc + len₂, stack := v.toList ++ g.stack })
    rw [← hs₂]
    exact hsteps
  · obtain ⟨e2, q2, q3, q4, q5, q6⟩ := id hsm
    have e3 : s₂ = ({ (U.calling g mk a).setFrames s₂.frames with heap := s₂.heap, slotsUsed := s₂.slotsUsed } : State).setVm s₂.vm := by
      have : s₂ = ({ s₂ with vm := (U.calling g mk a).vm } : State).setVm s₂.vm := rfl
      rw [e2] at this
      exact this
    have hf₂ : s₂.frames = .throwing q :: .java g :: U.frames.tail := hend
    have hW' : U.WarmedH s₂.vm := hW₂
    have hs₂ : s₂ = ((({ U with heap := s₂.heap, slotsUsed := s₂.slotsUsed } : State).setVm s₂.vm).setTop g).pushFrame (.throwing q) := by
      refine e3.trans ?_
      rw [hf₂, State.calling_eq h.top, State.setFrames_setFrames, State.pushFrame, State.frames_setTop _ hr', State.setTop_of_frames _ hr', State.setFrames_setFrames, hr]
      rfl
    have hsame : U.sameButNew ({ U with heap := s₂.heap, slotsUsed := s₂.slotsUsed } : State) L mc ms := by
      refine ⟨?_, q2, q3, q4, q5, q6⟩
      obtain ⟨t, ht, -⟩ := State.frames_cons hr
      show ({ U with heap := s₂.heap, slotsUsed := s₂.slotsUsed } : State) = { U.setFrames U.frames with heap := s₂.heap, slotsUsed := s₂.slotsUsed }
      rw [State.setFrames_self ht]
    subst hg
    refine Or.inr ⟨q, ⟨(({ U with heap := s₂.heap, slotsUsed := s₂.slotsUsed } : State).setVm s₂.vm), Ls ++ L, c0 + mc, s0 + ms⟩,
      ⟨X.admits, X.cas, X.clock, X.frames, X.room, X.hears, X.method, X.code, (X.here.setHeapUsed s₂.heap s₂.slotsUsed).setVm hW'.alike, X.tail, State.WarmedH.trans X.warmed hW', X.limits, X.bytes, X.same.trans (hsame.setVm s.vm)⟩,
      ⟨g, mk, s₂, L, E, ce, rfl, rfl, hx, hce, hcv, hcl, rfl, hL, rfl, rfl⟩, ?_⟩
    show Steps p.tables e below _ (((({ U with heap := s₂.heap, slotsUsed := s₂.slotsUsed } : State).setVm s₂.vm).setTop g).pushFrame (.throwing q))
    rw [← hs₂]
    exact hsteps
end
variable {p : Program} {l : Launch} {e : Env} {R : Room} {s : State} {m : MethodId} {args : Array Value} {below : List Frame} {meth : Method} {c : Code} {T : State} {H : Heap} {locs : List Loc} {cells slots : Nat}
theorem vx_callVX (X : Stand p l e R s m args below meth c T locs cells slots) (hexec : p.tables.exec = Jvm.exec) {own C : String} {index : Nat} {y : MethodName} {bytes : ByteArray} {maxL : Nat} {ret : Option FieldType} {hh : List (Nat × Nat × Nat × Nat)}
    (hown : s.vm.findClass own = some m.cls) (hlink : (Cond.methodLink own index y).before args s = true) (hinst : (Cond.instanceMethod y).before args s = true) (hsel : (Cond.selects C y y).before args s = true)
    (hcode : (Cond.codeWith y bytes maxL ret hh).before args s = true) (hy : y.cls ≠ "java/lang/invoke/MethodHandle" ∧ y.cls ≠ "java/lang/invoke/VarHandle")
    {W9 : Nat} {Pre : Pt → Array Value → Prop} {Post : Pt → Array Value → Option Value → Pt → Prop} {PostX : Pt → Array Value → Addr → Pt → Prop} (hK : vx_Back l R p e below s args y 3 W9 Pre Post PostX)
    {b : Addr} {cellB : Cell} (hcell : T.heap[b]? = some cellB) (hobj : cellB.vm.isStatics = false) (hcls : s.vm.findClass C = some cellB.cls)
    {g : JFrame} (hg : g.method = m) (hsize : g.locals.size = c.maxLocals) {argsL rest : List Value} (hlen : ∀ sig, parseMethodDescriptor y.desc = some sig → argsL.length = sig.parameters.length)
    (hstack : g.stack = argsL.reverse ++ .ref b :: rest) (hW : 2 * g.monitorRoom + (rest.map fun v => v.category).sum ≤ W9) (hdg : decode c.code g.pc = .ok (.invokevirtual index, 3))
    (hpre : ∀ vm₁, s.WarmedH vm₁ → Pre ⟨T.setVm vm₁, locs, cells, slots⟩ (Value.ref b :: argsL).toArray) :
    (∃ (v : Option Value) (vm₁ : Vm) (B : Pt), s.WarmedH vm₁ ∧ Stand p l e R s m args below meth c B.U B.locs B.cells B.slots ∧ Post ⟨T.setVm vm₁, locs, cells, slots⟩ (Value.ref b :: argsL).toArray v B ∧
      ∀ target, Steps p.tables e below (B.U.setTop { g with pc := g.pc + 3, stack := v.toList ++ rest }) target → Steps p.tables e below (T.setTop g) target) ∨
    (∃ (q : Addr) (vm₁ : Vm) (B : Pt), s.WarmedH vm₁ ∧ Stand p l e R s m args below meth c B.U B.locs B.cells B.slots ∧ PostX ⟨T.setVm vm₁, locs, cells, slots⟩ (Value.ref b :: argsL).toArray q B ∧
      Steps p.tables e below (T.setTop g) ((B.U.setTop { g with stack := rest }).pushFrame (.throwing q))) := by
  obtain ⟨mk, methM, hnamed, hmethM, hstM, habM⟩ := Cond.instanceMethod_spec hinst
  obtain ⟨m8, methM', cM, hn8, hmethM', -, -, -, -, -, -, hsigM⟩ := Cond.codeWith_spec hcode
  cases Option.some.inj (hn8.symm.trans hnamed)
  cases hmethM.symm.trans hmethM'
  obtain ⟨c2, r2, m2, q1, q2, q3, q4, kP, hkP, hkPi⟩ := Cond.selects_spec hsel
  cases hcls.symm.trans q1
  cases (State.methodFound?_of_named hnamed hy).symm.trans q2
  cases hnamed.symm.trans q3
  have hselP : selectMethod e.platform s.vm cellB.cls mk = .method mk := by rw [Launch.admits_selectMethod X.admits]; exact q4
  obtain ⟨vm₁, X₁, hstep₁⟩ := X.invokevirtual hexec hown hlink hnamed hmethM hstM hkP hkPi hy (a := b) (cell := cellB) hcell
    (fun z h => by rw [h] at hobj; cases hobj) hselP hmethM habM hkP hkPi (g := g) hg (argsL := argsL) (rest := rest) (hlen _ hsigM) hstack hdg
  rcases hK m meth c ⟨T.setVm vm₁, locs, cells, slots⟩ { g with stack := rest } (.invokevirtual index) mk (Value.ref b :: argsL).toArray X₁ hg hsize hdg hW (X₁.named hnamed) (hpre vm₁ X₁.warmed) with ⟨v, B, X', hpost, hsteps⟩ | ⟨q, B, X', hpost, hsteps⟩
  · exact Or.inl ⟨v, vm₁, B, X₁.warmed, X', hpost, fun target h => hstep₁ _ fun acts => by rw [doInvoke_state]; exact hsteps.trans h⟩
  · exact Or.inr ⟨q, vm₁, B, X₁.warmed, X', hpost, hstep₁ _ fun acts => by rw [doInvoke_state]; exact hsteps⟩
theorem vx_callSX (X : Stand p l e R s m args below meth c T locs cells slots) (hexec : p.tables.exec = Jvm.exec) {own : String} {index : Nat} {y : MethodName} {bytes : ByteArray} {maxL : Nat} {ret : Option FieldType} {hh : List (Nat × Nat × Nat × Nat)}
    (hown : s.vm.findClass own = some m.cls) (hlink : (Cond.methodLink own index y).before args s = true) (hstat : (Cond.static y).before args s = true) (hinit : (Cond.initialized y.cls).before args s = true)
    (hcode : (Cond.codeWith y bytes maxL ret hh).before args s = true) (hy : y.cls ≠ "java/lang/invoke/MethodHandle" ∧ y.cls ≠ "java/lang/invoke/VarHandle")
    {W9 : Nat} {Pre : Pt → Array Value → Prop} {Post : Pt → Array Value → Option Value → Pt → Prop} {PostX : Pt → Array Value → Addr → Pt → Prop} (hK : vx_Back l R p e below s args y 3 W9 Pre Post PostX)
    {g : JFrame} (hg : g.method = m) (hsize : g.locals.size = c.maxLocals) {argsL rest : List Value} (hlen : ∀ sig, parseMethodDescriptor y.desc = some sig → argsL.length = sig.parameters.length)
    (hstack : g.stack = argsL.reverse ++ rest) (hW : 2 * g.monitorRoom + (rest.map fun v => v.category).sum ≤ W9) (hdg : decode c.code g.pc = .ok (.invokestatic index, 3))
    (hpre : ∀ vm₁, s.WarmedH vm₁ → Pre ⟨T.setVm vm₁, locs, cells, slots⟩ argsL.toArray) :
    (∃ (v : Option Value) (vm₁ : Vm) (B : Pt), s.WarmedH vm₁ ∧ Stand p l e R s m args below meth c B.U B.locs B.cells B.slots ∧ Post ⟨T.setVm vm₁, locs, cells, slots⟩ argsL.toArray v B ∧
      ∀ target, Steps p.tables e below (B.U.setTop { g with pc := g.pc + 3, stack := v.toList ++ rest }) target → Steps p.tables e below (T.setTop g) target) ∨
    (∃ (q : Addr) (vm₁ : Vm) (B : Pt), s.WarmedH vm₁ ∧ Stand p l e R s m args below meth c B.U B.locs B.cells B.slots ∧ PostX ⟨T.setVm vm₁, locs, cells, slots⟩ argsL.toArray q B ∧
      Steps p.tables e below (T.setTop g) ((B.U.setTop { g with stack := rest }).pushFrame (.throwing q))) := by
  obtain ⟨mk, methM, cM, hnamed, hmethM, -, -, -, -, -, -, hsigM⟩ := Cond.codeWith_spec hcode
  have hstatic : methM.isStatic = true := Cond.static_spec hnamed hmethM hstat
  obtain ⟨kP, hkP, -⟩ := className_of_methodNamed hnamed
  have hinitP : kP.init = .initialized := Cond.initialized_spec (findClass_of_methodNamed hnamed) hkP hinit
  obtain ⟨vm₁, X₁, hstep₁⟩ := X.invokestatic hexec hown hlink hnamed hmethM hstatic hkP hinitP hy (g := g) hg (argsL := argsL) (rest := rest) (hlen _ hsigM) hstack hdg
  rcases hK m meth c ⟨T.setVm vm₁, locs, cells, slots⟩ { g with stack := rest } (.invokestatic index) mk argsL.toArray X₁ hg hsize hdg hW (X₁.named hnamed) (hpre vm₁ X₁.warmed) with ⟨v, B, X', hpost, hsteps⟩ | ⟨q, B, X', hpost, hsteps⟩
  · exact Or.inl ⟨v, vm₁, B, X₁.warmed, X', hpost, fun target h => hstep₁ _ fun acts => by rw [doInvoke_state]; exact hsteps.trans h⟩
  · exact Or.inr ⟨q, vm₁, B, X₁.warmed, X', hpost, hstep₁ _ fun acts => by rw [doInvoke_state]; exact hsteps⟩
theorem vx_callVW (X : Stand p l e R s m args below meth c T locs cells slots) (hexec : p.tables.exec = Jvm.exec) {own C : String} {index : Nat} {y : MethodName} {bytes : ByteArray} {maxL : Nat} {ret : Option FieldType} {hh : List (Nat × Nat × Nat × Nat)}
    (hown : s.vm.findClass own = some m.cls) (hlink : (Cond.methodLink own index y).before args s = true) (hinst : (Cond.instanceMethod y).before args s = true) (hsel : (Cond.selects C y y).before args s = true)
    (hcode : (Cond.codeWith y bytes maxL ret hh).before args s = true) (hy : y.cls ≠ "java/lang/invoke/MethodHandle" ∧ y.cls ≠ "java/lang/invoke/VarHandle")
    {W9 : Nat} {Pre : Pt → Array Value → Prop} {Post : Pt → Array Value → Option Value → Pt → Prop} (hK : Back l R p e below s args y 3 W9 Pre Post)
    {b : Addr} {cellB : Cell} (hcell : T.heap[b]? = some cellB) (hobj : cellB.vm.isStatics = false) (hcls : s.vm.findClass C = some cellB.cls)
    {g : JFrame} (hg : g.method = m) (hsize : g.locals.size = c.maxLocals) {argsL rest : List Value} (hlen : ∀ sig, parseMethodDescriptor y.desc = some sig → argsL.length = sig.parameters.length)
    (hstack : g.stack = argsL.reverse ++ .ref b :: rest) (hW : 2 * g.monitorRoom + (rest.map fun v => v.category).sum ≤ W9) (hdg : decode c.code g.pc = .ok (.invokevirtual index, 3))
    (hpre : ∀ vm₁, s.WarmedH vm₁ → Pre ⟨T.setVm vm₁, locs, cells, slots⟩ (Value.ref b :: argsL).toArray) :
    ∃ (v : Option Value) (vm₁ : Vm) (B : Pt), s.WarmedH vm₁ ∧ Stand p l e R s m args below meth c B.U B.locs B.cells B.slots ∧ Post ⟨T.setVm vm₁, locs, cells, slots⟩ (Value.ref b :: argsL).toArray v B ∧
      ∀ target, Steps p.tables e below (B.U.setTop { g with pc := g.pc + 3, stack := v.toList ++ rest }) target → Steps p.tables e below (T.setTop g) target := by
  obtain ⟨mk, methM, hnamed, hmethM, hstM, habM⟩ := Cond.instanceMethod_spec hinst
  obtain ⟨m8, methM', cM, hn8, hmethM', -, -, -, -, -, -, hsigM⟩ := Cond.codeWith_spec hcode
  cases Option.some.inj (hn8.symm.trans hnamed)
  cases hmethM.symm.trans hmethM'
  obtain ⟨c2, r2, m2, q1, q2, q3, q4, kP, hkP, hkPi⟩ := Cond.selects_spec hsel
  cases hcls.symm.trans q1
  cases (State.methodFound?_of_named hnamed hy).symm.trans q2
  cases hnamed.symm.trans q3
  have hselP : selectMethod e.platform s.vm cellB.cls mk = .method mk := by rw [Launch.admits_selectMethod X.admits]; exact q4
  obtain ⟨vm₁, X₁, hstep₁⟩ := X.invokevirtual hexec hown hlink hnamed hmethM hstM hkP hkPi hy (a := b) (cell := cellB) hcell
    (fun z h => by rw [h] at hobj; cases hobj) hselP hmethM habM hkP hkPi (g := g) hg (argsL := argsL) (rest := rest) (hlen _ hsigM) hstack hdg
  obtain ⟨v, B, X', hpost, hsteps⟩ := hK m meth c ⟨T.setVm vm₁, locs, cells, slots⟩ { g with stack := rest } (.invokevirtual index) mk (Value.ref b :: argsL).toArray X₁ hg hsize hdg hW (X₁.named hnamed) (hpre vm₁ X₁.warmed)
  exact ⟨v, vm₁, B, X₁.warmed, X', hpost, fun target h => hstep₁ _ fun acts => by rw [doInvoke_state]; exact hsteps.trans h⟩
abbrev vx_CVW (R : Room) (s : State) (args : Array Value) (own C : String) (index : Nat) (y : MethodName) (bytes : ByteArray) (maxL : Nat) (ret : Option FieldType) (hh : List (Nat × Nat × Nat × Nat)) (ws : List Cond) (rm : Room) (mc ms n : Nat) : Prop :=
  (rm.cells = mc ∧ rm.slots = ms ∧ rm.frames + 1 ≤ R.frames ∧ 8 + (maxL + 11) + rm.locals ≤ R.locals ∧ (∀ w ∈ ws, ∀ (a' : Array Value) (U : State), s.WarmedH U.vm → w.before a' U = true) ∧ Cond.codeWith y bytes maxL ret hh ∈ ws) ∧
  (Cond.codeWith y bytes maxL ret hh).before args s = true ∧ (Cond.initialized y.cls).before args s = true ∧ (y.cls ≠ "java/lang/invoke/MethodHandle" ∧ y.cls ≠ "java/lang/invoke/VarHandle") ∧
  (∀ sig, parseMethodDescriptor y.desc = some sig → n = sig.parameters.length) ∧ (Cond.methodLink own index y).before args s = true ∧ (Cond.instanceMethod y).before args s = true ∧ (Cond.selects C y y).before args s = true
theorem vx_cwVW {own C : String} {index maxL mc ms : Nat} {y : MethodName} {bytes : ByteArray} {ret : Option FieldType} {hh : List (Nat × Nat × Nat × Nat)} {Ts ws ws' : List Cond} {rm : Room} (n : Nat) (ht : ∀ w ∈ Ts, w.before args s = true) (hT : GoodIn Ts (wsV own index C y ws)) (hw : ws = Cond.codeWith y bytes maxL ret hh :: ws') (hrc : rm.cells = mc) (hrs : rm.slots = ms)
    (hd : y.cls = C ∧ y.cls ≠ "java/lang/invoke/MethodHandle" ∧ y.cls ≠ "java/lang/invoke/VarHandle" ∧ (parseMethodDescriptor y.desc).map (fun d => d.parameters.length) = some n) (hR : rm.frames + 1 ≤ R.frames ∧ 8 + (maxL + 11) + rm.locals ≤ R.locals) :
    vx_CVW R s args own C index y bytes maxL ret hh ws rm mc ms n := by
  obtain ⟨hC, hd⟩ := hd
  subst hC
  have ok : ∀ w ∈ wsV own index y.cls y ws, w.before args s = true := fun w h => ht w (hT w h).1
  have hG : GoodIn Ts ws := fun w h => hT w (by unfold wsV; exact List.mem_append_right _ h)
  have hc : Cond.codeWith y bytes maxL ret hh ∈ ws := by rw [hw]; exact List.mem_cons_self
  refine ⟨⟨hrc, hrs, hR.1, hR.2, pay_in ht hG, hc⟩, ht _ (hG _ hc).1, ok _ (by simp [wsV]), ⟨hd.1, hd.2.1⟩, fun sig h => ?_, ok _ (by simp [wsV]), ok _ (by simp [wsV]), ok _ (by simp [wsV])⟩
  have h2 := hd.2.2
  rw [h] at h2
  exact (Option.some.inj h2).symm
theorem vx_runVW {y : MethodName} {bytes cc : ByteArray} {maxL nL mc ms n index : Nat} {ret : Option FieldType} {hh : List (Nat × Nat × Nat × Nat)} {ws : List Cond} {rm : Room} {Pc : Array Value → State → Prop} {Qc : Array Value → State → Outcome → State → Prop} {free : Addr → Prop} {Ts : List Cond} {own C : String} {b : Addr} {As rest : List Value} {g : JFrame}
    (S : CallFix p m c cc nL s args Ts own) (hM : Met l y ws rm Pc Qc mc ms free) (cw : vx_CVW R s args own C index y bytes maxL ret hh ws rm mc ms n) (hp : PreV s H C b Pc As)
    (hg : g.method = m) (hn : As.length = n) (hsize : g.locals.size = nL) (hstack : g.stack = As.reverse ++ .ref b :: rest) (hW : 2 * g.monitorRoom + (rest.map fun v => v.category).sum ≤ 8) (hdg : decode cc g.pc = .ok (.invokevirtual index, 3)) (hf : cells + mc ≤ R.cells ∧ slots + ms ≤ R.slots) :
    va_Run p l e R s m args below meth c H locs cells slots mc ms g rest (Qc (Value.ref b :: As).toArray) free := by
  obtain ⟨⟨hrc, hrs, hfr, hlo, hws, hcw⟩, hcode, hini, hy, hlen, hl, hin, hse⟩ := cw
  have hK : Back l R p e below s args y 3 8 (PreOf R mc ms Pc) (PostOf Qc mc ms free) := va_backW (hh := hh) (bytes := bytes) (maxL := maxL) (ret := ret) hM hp.1 hrc hrs hfr hlo hws hcw (fun a' U hW => word_at hW (Or.inl (by first | rfl | simp [Cond.onTables, Cond.keeps, Cond.steady])) hini)
  obtain ⟨hx, hb, hml, ho, -⟩ := S
  obtain ⟨-, ⟨cellB, hcB, hoB, hclB⟩, hPc⟩ := hp
  intro T hT X
  obtain ⟨v, vm₁, ⟨U', l2, c2, s2⟩, hW₁, X', ⟨g', mk, t, L, e1, e2, hq, h1, hL, h2, h3⟩, st⟩ := vx_callVW X hx (C := C) (hh := hh) (bytes := bytes) (maxL := maxL) (ret := ret) ho hl hin hse hcode hy hK (by rw [hT]; exact hcB) hoB hclB hg (hsize.trans hml.symm) (argsL := As) (rest := rest) (fun sig h => hn.trans (hlen sig h)) hstack hW (by rw [hb]; exact hdg)
    (fun vm₁ hW₁ => ⟨hf.1, hf.2, hPc (T.setVm vm₁) hT hW₁⟩)
  dsimp only [Pt.U, Pt.locs, Pt.cells, Pt.slots] at X' e1 e2 h1 h2 h3 st
  subst h1; subst h2; subst h3
  exact ⟨v, (T.setVm vm₁).calling g' mk (Value.ref b :: As).toArray, t, U', L, hT, X', hL, e1, e2, hq, st⟩
section
variable {y : MethodName} {bytes cc : ByteArray} {maxL nL mc ms n index : Nat} {ret : Option FieldType} {ws : List Cond} {rm : Room} {Pc : Array Value → State → Prop} {Qc : Array Value → State → Outcome → State → Prop} {XC : String → State → State → Prop} {free : Addr → Prop} {Ts : List Cond} {own C : String} {b : Addr} {As rest : List Value} {g : JFrame}
theorem vx_runVX {hh : List (Nat × Nat × Nat × Nat)} (S : CallFix p m c cc nL s args Ts own) (hM : vx_Met l y ws rm Pc Qc XC mc ms free) (cw : vx_CVW R s args own C index y bytes maxL ret hh ws rm mc ms n) (hp : PreV s H C b Pc As)
    (hg : g.method = m) (hn : As.length = n) (hsize : g.locals.size = nL) (hstack : g.stack = As.reverse ++ .ref b :: rest) (hW : 2 * g.monitorRoom + (rest.map fun v => v.category).sum ≤ 8) (hdg : decode cc g.pc = .ok (.invokevirtual index, 3)) (hf : cells + mc ≤ R.cells ∧ slots + ms ≤ R.slots) :
    vx_Run p l e R s m args below meth c H locs cells slots mc ms g rest (Qc (Value.ref b :: As).toArray) XC free := by
  obtain ⟨⟨hrc, hrs, hfr, hlo, hws, hcw⟩, hcode, hini, hy, hlen, hl, hin, hse⟩ := cw
  have hK : vx_Back l R p e below s args y 3 8 (PreOf R mc ms Pc) (PostOf Qc mc ms free) (vx_Post XC mc ms free) := vx_backW (hh := hh) (bytes := bytes) (maxL := maxL) (ret := ret) hM hp.1 hrc hrs hfr hlo hws hcw (fun a' U hW => word_at hW (Or.inl (by first | rfl | simp [Cond.onTables, Cond.keeps, Cond.steady])) hini)
  obtain ⟨hx, hb, hml, ho, -⟩ := S
  obtain ⟨-, ⟨cellB, hcB, hoB, hclB⟩, hPc⟩ := hp
  intro T hT X
  rcases vx_callVX X hx (C := C) (hh := hh) (bytes := bytes) (maxL := maxL) (ret := ret) ho hl hin hse hcode hy hK (by rw [hT]; exact hcB) hoB hclB hg (hsize.trans hml.symm) (argsL := As) (rest := rest) (fun sig h => hn.trans (hlen sig h)) hstack hW (by rw [hb]; exact hdg)
    (fun vm₁ hW₁ => ⟨hf.1, hf.2, hPc (T.setVm vm₁) hT hW₁⟩) with ⟨v, vm₁, ⟨U', l2, c2, s2⟩, hW₁, X', ⟨g', mk, t, L, e1, e2, hq, h1, hL, h2, h3⟩, st⟩ | ⟨q, vm₁, ⟨U', l2, c2, s2⟩, hW₁, X', ⟨g', mk, t, L, E, ce, e1, e2, hq, hce, hcv, hcl, h1, hL, h2, h3⟩, st⟩
  · dsimp only [Pt.U, Pt.locs, Pt.cells, Pt.slots] at X' e1 e2 h1 h2 h3 st
    subst h1; subst h2; subst h3
    exact Or.inl ⟨v, (T.setVm vm₁).calling g' mk (Value.ref b :: As).toArray, t, U', L, hT, X', hL, e1, e2, hq, st⟩
  · dsimp only [Pt.U, Pt.locs, Pt.cells, Pt.slots] at X' e1 e2 h1 h2 h3 st hcl
    subst h1; subst h2; subst h3
    exact Or.inr ⟨q, (T.setVm vm₁).calling g' mk (Value.ref b :: As).toArray, t, U', L, E, ce, hT, X', hL, e1, e2, hq, hce, hcv, vx_cls hW₁ hcl, st⟩
theorem vx_runSX {hh : List (Nat × Nat × Nat × Nat)} (S : CallFix p m c cc nL s args Ts own) (hM : vx_Met l y ws rm Pc Qc XC mc ms free) (cw : vx_CSW R s args own index y bytes maxL ret hh ws rm mc ms n) (hp : PreS s H Pc As)
    (hg : g.method = m) (hn : As.length = n) (hsize : g.locals.size = nL) (hstack : g.stack = As.reverse ++ rest) (hW : 2 * g.monitorRoom + (rest.map fun v => v.category).sum ≤ 8) (hdg : decode cc g.pc = .ok (.invokestatic index, 3)) (hf : cells + mc ≤ R.cells ∧ slots + ms ≤ R.slots) :
    vx_Run p l e R s m args below meth c H locs cells slots mc ms g rest (Qc As.toArray) XC free := by
  obtain ⟨⟨hrc, hrs, hfr, hlo, hws, hcw⟩, hcode, hini, hy, hlen, hl, hstt⟩ := cw
  have hK : vx_Back l R p e below s args y 3 8 (PreOf R mc ms Pc) (PostOf Qc mc ms free) (vx_Post XC mc ms free) := vx_backW (hh := hh) (bytes := bytes) (maxL := maxL) (ret := ret) hM hp.1 hrc hrs hfr hlo hws hcw (fun a' U hW => word_at hW (Or.inl (by first | rfl | simp [Cond.onTables, Cond.keeps, Cond.steady])) hini)
  obtain ⟨hx, hb, hml, ho, -⟩ := S
  intro T hT X
  rcases vx_callSX X hx (hh := hh) (bytes := bytes) (maxL := maxL) (ret := ret) ho hl hstt hini hcode hy hK hg (hsize.trans hml.symm) (argsL := As) (rest := rest) (fun sig h => hn.trans (hlen sig h)) hstack hW (by rw [hb]; exact hdg)
    (fun vm₁ hW₁ => ⟨hf.1, hf.2, hp.2 (T.setVm vm₁) hT hW₁⟩) with ⟨v, vm₁, ⟨U', l2, c2, s2⟩, hW₁, X', ⟨g', mk, t, L, e1, e2, hq, h1, hL, h2, h3⟩, st⟩ | ⟨q, vm₁, ⟨U', l2, c2, s2⟩, hW₁, X', ⟨g', mk, t, L, E, ce, e1, e2, hq, hce, hcv, hcl, h1, hL, h2, h3⟩, st⟩
  · dsimp only [Pt.U, Pt.locs, Pt.cells, Pt.slots] at X' e1 e2 h1 h2 h3 st
    subst h1; subst h2; subst h3
    exact Or.inl ⟨v, (T.setVm vm₁).calling g' mk As.toArray, t, U', L, hT, X', hL, e1, e2, hq, st⟩
  · dsimp only [Pt.U, Pt.locs, Pt.cells, Pt.slots] at X' e1 e2 h1 h2 h3 st hcl
    subst h1; subst h2; subst h3
    exact Or.inr ⟨q, (T.setVm vm₁).calling g' mk As.toArray, t, U', L, E, ce, hT, X', hL, e1, e2, hq, hce, hcv, vx_cls hW₁ hcl, st⟩
end
end VXH
theorem vx_ofWH {l : Launch} {y : MethodName} {ws ws' : List Cond} {rm : Room} {Pc : Array Value → State → Prop} {Qc : Array Value → State → Outcome → State → Prop} {XC : String → State → State → Prop} {mc ms : Nat} {free : Addr → Prop} {cc : ByteArray} {maxL : Nat} {ret : Option FieldType} {hh : List (Nat × Nat × Nat × Nat)}
    (hy : plainName y.cls = true) (hw : ws = Cond.codeWith y cc maxL ret hh :: ws')
    (body : ∀ p e s m args below meth c s₁, BodyLoose p l y (headSpec ws rm) cc maxL ret e s m args below meth c s₁ → c.maxLocals = maxL → Pc args s →
      W p l e (headSpec ws rm).room s m args below meth c s.heap [] 0 0 (vx_MQ below Qc XC args s mc ms free) (entryFrame m args maxL)) : vx_Met l y ws rm Pc Qc XC mc ms free := by
  refine MetFree.of_bodyS (code := cc) (maxLocals := maxL) (ret := ret) hy ?_ ?_
  · intro args s m h hn
    obtain ⟨m9, meth, c, hn9, h1, h2, h3, h4, -, h5, h6, -⟩ := Cond.codeWith_spec (atoms_spec (ws := ws) h _ (by rw [hw]; exact List.mem_cons_self))
    cases hn.symm.trans hn9
    exact ⟨meth, c, h1, h2, h3, h4, h5, h6⟩
  · intro p e s m args below meth c s₁ B hml hP _
    have hh0 : s₁.heap = s.heap := by rw [B.state]; rfl
    obtain ⟨t, a1, o, b1, b2, b3⟩ := body p e s m args below meth c s₁ B hml hP s₁ hh0 (Stand.of_body B)
    exact ⟨t, o, a1, b1, b2, b3⟩
/-! ===== END ===== -/
end
section
/-! ===== BEGIN printed: names, fields, word lists, decode rows ===== -/
def RX0 : String := "GooseCodex$Farm"
def TX0 : u_T := fun k => match k with
  | 0 => ("GooseCodex$Farm", "gateCount", "I", false)
  | 1 => ("GooseCodex$Farm", "ranks", "[I", true)
  | 2 => ("GooseCodex$Farm", "flock", "LGooseCodex$Flock;", true)
  | 3 => ("GooseCodex$Farm", "guests", "LGooseCodex$Guests;", true)
  | 4 => ("GooseCodex$Farm", "beat", "I", false)
  | 5 => ("GooseCodex$Farm", "bribeCount", "I", false)
  | _ => ("GooseCodex$Farm", "retreatCount", "I", false)
def tyX0 : Nat → FieldType := fun k => match k with
  | 0 => .int
  | 1 => .array .int
  | 2 => .object "GooseCodex$Flock"
  | 3 => .object "GooseCodex$Guests"
  | 4 => .int
  | 5 => .int
  | _ => .int
abbrev wsX00 : List Cond := u_ws RX0 TX0 7
theorem nmX0 : ∀ a, a < 7 → ∀ b, b < 7 → a ≠ b → (TX0 a).2.1 ≠ (TX0 b).2.1 := by decide +kernel
theorem tyX0_ok : ∀ k, k < 7 → parseFieldDescriptor (TX0 k).2.2.1 = some (tyX0 k) := by decide +kernel
abbrev cX0_init : ByteArray := prog_2_method_1_code
def yX0_init : MethodName := ⟨RX0, "<init>", "()V"⟩
abbrev cX0_hasGate : ByteArray := prog_2_method_2_code
def yX0_hasGate : MethodName := ⟨RX0, "hasGate", "(I)Z"⟩
abbrev cX0_putGate : ByteArray := prog_2_method_3_code
def yX0_putGate : MethodName := ⟨RX0, "putGate", "(I)I"⟩
abbrev cX0_rankLack : ByteArray := prog_2_method_4_code
def yX0_rankLack : MethodName := ⟨RX0, "rankLack", "(II)I"⟩
abbrev cX0_gateHiss : ByteArray := prog_2_method_5_code
def yX0_gateHiss : MethodName := ⟨RX0, "gateHiss", "(II)I"⟩
abbrev cX0_guestHiss : ByteArray := prog_2_method_6_code
def yX0_guestHiss : MethodName := ⟨RX0, "guestHiss", "(I)I"⟩
abbrev cX0_isBehindAll : ByteArray := prog_2_method_7_code
def yX0_isBehindAll : MethodName := ⟨RX0, "isBehindAll", "(I)Z"⟩
abbrev cX0_countInside : ByteArray := prog_2_method_8_code
def yX0_countInside : MethodName := ⟨RX0, "countInside", "()I"⟩
abbrev cX0_payGoose : ByteArray := prog_2_method_9_code
def yX0_payGoose : MethodName := ⟨RX0, "payGoose", "(II)V"⟩
abbrev cX0_fewestToCalm : ByteArray := prog_2_method_10_code
def yX0_fewestToCalm : MethodName := ⟨RX0, "fewestToCalm", "(I)I"⟩
abbrev cX0_runBeats : ByteArray := prog_2_method_11_code
def yX0_runBeats : MethodName := ⟨RX0, "runBeats", "(I)V"⟩
abbrev cX0_runBeat : ByteArray := prog_2_method_12_code
def yX0_runBeat : MethodName := ⟨RX0, "runBeat", "()V"⟩
abbrev cX0_moveGuest : ByteArray := prog_2_method_13_code
def yX0_moveGuest : MethodName := ⟨RX0, "moveGuest", "(I)V"⟩
abbrev cX0_beatsToFarm : ByteArray := prog_2_method_14_code
def yX0_beatsToFarm : MethodName := ⟨RX0, "beatsToFarm", "(II)I"⟩
abbrev cX0_copyFrom : ByteArray := prog_2_method_15_code
def yX0_copyFrom : MethodName := ⟨RX0, "copyFrom", "(LGooseCodex$Farm;)V"⟩
def RX1 : String := "GooseCodex$Flock"
def TX1 : u_T := fun k => match k with
  | 0 => ("GooseCodex$Flock", "count", "I", false)
  | 1 => ("GooseCodex$Flock", "gate", "[I", true)
  | 2 => ("GooseCodex$Flock", "temper", "[I", true)
  | 3 => ("GooseCodex$Flock", "calm", "[I", true)
  | _ => ("GooseCodex$Flock", "eaten", "[I", true)
def tyX1 : Nat → FieldType := fun k => match k with
  | 0 => .int
  | 1 => .array .int
  | 2 => .array .int
  | 3 => .array .int
  | _ => .array .int
abbrev wsX10 : List Cond := u_ws RX1 TX1 5
theorem nmX1 : ∀ a, a < 5 → ∀ b, b < 5 → a ≠ b → (TX1 a).2.1 ≠ (TX1 b).2.1 := by decide +kernel
theorem tyX1_ok : ∀ k, k < 5 → parseFieldDescriptor (TX1 k).2.2.1 = some (tyX1 k) := by decide +kernel
abbrev cX1_init : ByteArray := prog_3_method_1_code
def yX1_init : MethodName := ⟨RX1, "<init>", "()V"⟩
abbrev cX1_hasGoose : ByteArray := prog_3_method_2_code
def yX1_hasGoose : MethodName := ⟨RX1, "hasGoose", "(I)Z"⟩
abbrev cX1_putGoose : ByteArray := prog_3_method_3_code
def yX1_putGoose : MethodName := ⟨RX1, "putGoose", "(II)I"⟩
abbrev cX1_isAwakeThere : ByteArray := prog_3_method_4_code
def yX1_isAwakeThere : MethodName := ⟨RX1, "isAwakeThere", "(II)Z"⟩
abbrev cX1_countAwake : ByteArray := prog_3_method_5_code
def yX1_countAwake : MethodName := ⟨RX1, "countAwake", "(I)I"⟩
abbrev cX1_hissThere : ByteArray := prog_3_method_6_code
def yX1_hissThere : MethodName := ⟨RX1, "hissThere", "(II)I"⟩
abbrev cX1_fiercestAwake : ByteArray := prog_3_method_7_code
def yX1_fiercestAwake : MethodName := ⟨RX1, "fiercestAwake", "(I)I"⟩
abbrev cX1_feed : ByteArray := prog_3_method_8_code
def yX1_feed : MethodName := ⟨RX1, "feed", "(I)V"⟩
abbrev cX1_enrage : ByteArray := prog_3_method_9_code
def yX1_enrage : MethodName := ⟨RX1, "enrage", "(I)V"⟩
abbrev cX1_wakeByABeat : ByteArray := prog_3_method_10_code
def yX1_wakeByABeat : MethodName := ⟨RX1, "wakeByABeat", "()V"⟩
abbrev cX1_sumOfTempers : ByteArray := prog_3_method_11_code
def yX1_sumOfTempers : MethodName := ⟨RX1, "sumOfTempers", "()I"⟩
abbrev cX1_copyFrom : ByteArray := prog_3_method_12_code
def yX1_copyFrom : MethodName := ⟨RX1, "copyFrom", "(LGooseCodex$Flock;)V"⟩
def RX2 : String := "GooseCodex$Guests"
def TX2 : u_T := fun k => match k with
  | 0 => ("GooseCodex$Guests", "count", "I", false)
  | 1 => ("GooseCodex$Guests", "rank", "[I", true)
  | 2 => ("GooseCodex$Guests", "nerve", "[I", true)
  | 3 => ("GooseCodex$Guests", "corns", "[I", true)
  | 4 => ("GooseCodex$Guests", "passed", "[I", true)
  | _ => ("GooseCodex$Guests", "retreat", "[I", true)
def tyX2 : Nat → FieldType := fun k => match k with
  | 0 => .int
  | 1 => .array .int
  | 2 => .array .int
  | 3 => .array .int
  | 4 => .array .int
  | _ => .array .int
abbrev wsX20 : List Cond := u_ws RX2 TX2 6
theorem nmX2 : ∀ a, a < 6 → ∀ b, b < 6 → a ≠ b → (TX2 a).2.1 ≠ (TX2 b).2.1 := by decide +kernel
theorem tyX2_ok : ∀ k, k < 6 → parseFieldDescriptor (TX2 k).2.2.1 = some (tyX2 k) := by decide +kernel
abbrev cX2_init : ByteArray := prog_4_method_1_code
def yX2_init : MethodName := ⟨RX2, "<init>", "()V"⟩
abbrev cX2_hasGuest : ByteArray := prog_4_method_2_code
def yX2_hasGuest : MethodName := ⟨RX2, "hasGuest", "(I)Z"⟩
abbrev cX2_putGuest : ByteArray := prog_4_method_3_code
def yX2_putGuest : MethodName := ⟨RX2, "putGuest", "(III)I"⟩
abbrev cX2_fallBack : ByteArray := prog_4_method_4_code
def yX2_fallBack : MethodName := ⟨RX2, "fallBack", "(II)V"⟩
abbrev cX2_copyFrom : ByteArray := prog_4_method_5_code
def yX2_copyFrom : MethodName := ⟨RX2, "copyFrom", "(LGooseCodex$Guests;)V"⟩
def RX3 : String := "GooseCodex"
def TX3 : u_T := fun k => match k with
  | 0 => ("GooseCodex", "now", "LGooseCodex$Farm;", true)
  | _ => ("GooseCodex", "trial", "LGooseCodex$Farm;", true)
def tyX3 : Nat → FieldType := fun k => match k with
  | 0 => .object "GooseCodex$Farm"
  | _ => .object "GooseCodex$Farm"
abbrev wsX30 : List Cond := u_ws RX3 TX3 2
theorem nmX3 : ∀ a, a < 2 → ∀ b, b < 2 → a ≠ b → (TX3 a).2.1 ≠ (TX3 b).2.1 := by decide +kernel
theorem tyX3_ok : ∀ k, k < 2 → parseFieldDescriptor (TX3 k).2.2.1 = some (tyX3 k) := by decide +kernel
abbrev cX3_init : ByteArray := prog_1_method_1_code
def yX3_init : MethodName := ⟨RX3, "<init>", "()V"⟩
abbrev cX3_addGate : ByteArray := prog_1_method_2_code
def yX3_addGate : MethodName := ⟨RX3, "addGate", "(I)I"⟩
abbrev cX3_addGoose : ByteArray := prog_1_method_3_code
def yX3_addGoose : MethodName := ⟨RX3, "addGoose", "(II)I"⟩
abbrev cX3_arrive : ByteArray := prog_1_method_4_code
def yX3_arrive : MethodName := ⟨RX3, "arrive", "(III)I"⟩
abbrev cX3_setRank : ByteArray := prog_1_method_5_code
def yX3_setRank : MethodName := ⟨RX3, "setRank", "(II)I"⟩
abbrev cX3_lead : ByteArray := prog_1_method_6_code
def yX3_lead : MethodName := ⟨RX3, "lead", "(II)I"⟩
abbrev cX3_giveCorns : ByteArray := prog_1_method_7_code
def yX3_giveCorns : MethodName := ⟨RX3, "giveCorns", "(II)I"⟩
abbrev cX3_bribe : ByteArray := prog_1_method_8_code
def yX3_bribe : MethodName := ⟨RX3, "bribe", "(II)I"⟩
abbrev cX3_passBeats : ByteArray := prog_1_method_9_code
def yX3_passBeats : MethodName := ⟨RX3, "passBeats", "(I)I"⟩
abbrev cX3_beats : ByteArray := prog_1_method_10_code
def yX3_beats : MethodName := ⟨RX3, "beats", "()I"⟩
abbrev cX3_gates : ByteArray := prog_1_method_11_code
def yX3_gates : MethodName := ⟨RX3, "gates", "()I"⟩
abbrev cX3_geese : ByteArray := prog_1_method_12_code
def yX3_geese : MethodName := ⟨RX3, "geese", "()I"⟩
abbrev cX3_visitors : ByteArray := prog_1_method_13_code
def yX3_visitors : MethodName := ⟨RX3, "visitors", "()I"⟩
abbrev cX3_inFarm : ByteArray := prog_1_method_14_code
def yX3_inFarm : MethodName := ⟨RX3, "inFarm", "()I"⟩
abbrev cX3_bribes : ByteArray := prog_1_method_15_code
def yX3_bribes : MethodName := ⟨RX3, "bribes", "()I"⟩
abbrev cX3_retreats : ByteArray := prog_1_method_16_code
def yX3_retreats : MethodName := ⟨RX3, "retreats", "()I"⟩
abbrev cX3_rankOf : ByteArray := prog_1_method_17_code
def yX3_rankOf : MethodName := ⟨RX3, "rankOf", "(I)I"⟩
abbrev cX3_awakeAt : ByteArray := prog_1_method_18_code
def yX3_awakeAt : MethodName := ⟨RX3, "awakeAt", "(I)I"⟩
abbrev cX3_hissOf : ByteArray := prog_1_method_19_code
def yX3_hissOf : MethodName := ⟨RX3, "hissOf", "(II)I"⟩
abbrev cX3_loudestGate : ByteArray := prog_1_method_20_code
def yX3_loudestGate : MethodName := ⟨RX3, "loudestGate", "()I"⟩
abbrev cX3_gateOf : ByteArray := prog_1_method_21_code
def yX3_gateOf : MethodName := ⟨RX3, "gateOf", "(I)I"⟩
abbrev cX3_temperOf : ByteArray := prog_1_method_22_code
def yX3_temperOf : MethodName := ⟨RX3, "temperOf", "(I)I"⟩
abbrev cX3_calmFor : ByteArray := prog_1_method_23_code
def yX3_calmFor : MethodName := ⟨RX3, "calmFor", "(I)I"⟩
abbrev cX3_eatenBy : ByteArray := prog_1_method_24_code
def yX3_eatenBy : MethodName := ⟨RX3, "eatenBy", "(I)I"⟩
abbrev cX3_passedBy : ByteArray := prog_1_method_25_code
def yX3_passedBy : MethodName := ⟨RX3, "passedBy", "(I)I"⟩
abbrev cX3_isInFarm : ByteArray := prog_1_method_26_code
def yX3_isInFarm : MethodName := ⟨RX3, "isInFarm", "(I)Z"⟩
abbrev cX3_cornsOf : ByteArray := prog_1_method_27_code
def yX3_cornsOf : MethodName := ⟨RX3, "cornsOf", "(I)I"⟩
abbrev cX3_nerveOf : ByteArray := prog_1_method_28_code
def yX3_nerveOf : MethodName := ⟨RX3, "nerveOf", "(I)I"⟩
abbrev cX3_retreatOf : ByteArray := prog_1_method_29_code
def yX3_retreatOf : MethodName := ⟨RX3, "retreatOf", "(I)I"⟩
abbrev cX3_hissAt : ByteArray := prog_1_method_30_code
def yX3_hissAt : MethodName := ⟨RX3, "hissAt", "(I)I"⟩
abbrev cX3_gradeFor : ByteArray := prog_1_method_31_code
def yX3_gradeFor : MethodName := ⟨RX3, "gradeFor", "(I)I"⟩
abbrev cX3_dares : ByteArray := prog_1_method_32_code
def yX3_dares : MethodName := ⟨RX3, "dares", "(I)Z"⟩
abbrev cX3_beatsUntilIn : ByteArray := prog_1_method_33_code
def yX3_beatsUntilIn : MethodName := ⟨RX3, "beatsUntilIn", "(I)I"⟩
abbrev cX3_inFarmAfter : ByteArray := prog_1_method_34_code
def yX3_inFarmAfter : MethodName := ⟨RX3, "inFarmAfter", "(I)I"⟩
abbrev cX3_cornsWanted : ByteArray := prog_1_method_35_code
def yX3_cornsWanted : MethodName := ⟨RX3, "cornsWanted", "(I)I"⟩
abbrev cX3_bestToBribe : ByteArray := prog_1_method_36_code
def yX3_bestToBribe : MethodName := ⟨RX3, "bestToBribe", "(I)I"⟩
abbrev cX3_bribesWanted : ByteArray := prog_1_method_37_code
def yX3_bribesWanted : MethodName := ⟨RX3, "bribesWanted", "(I)I"⟩
abbrev cX3_rankWanted : ByteArray := prog_1_method_38_code
def yX3_rankWanted : MethodName := ⟨RX3, "rankWanted", "(I)I"⟩
abbrev cX3_firstBar : ByteArray := prog_1_method_39_code
def yX3_firstBar : MethodName := ⟨RX3, "firstBar", "(II)I"⟩
abbrev cX3_meanTemper : ByteArray := prog_1_method_40_code
def yX3_meanTemper : MethodName := ⟨RX3, "meanTemper", "()D"⟩
abbrev cX3_digest : ByteArray := prog_1_method_41_code
def yX3_digest : MethodName := ⟨RX3, "digest", "()J"⟩
abbrev cX3_mixGates : ByteArray := prog_1_method_42_code
def yX3_mixGates : MethodName := ⟨RX3, "mixGates", "(J)J"⟩
abbrev cX3_mixGeese : ByteArray := prog_1_method_43_code
def yX3_mixGeese : MethodName := ⟨RX3, "mixGeese", "(J)J"⟩
abbrev cX3_mix : ByteArray := prog_1_method_44_code
def yX3_mix : MethodName := ⟨RX3, "mix", "(JJ)J"⟩
abbrev cX3_gradeOfHiss : ByteArray := prog_1_method_45_code
def yX3_gradeOfHiss : MethodName := ⟨RX3, "gradeOfHiss", "(I)I"⟩
abbrev cX3_isWithin : ByteArray := prog_1_method_46_code
def yX3_isWithin : MethodName := ⟨RX3, "isWithin", "(III)Z"⟩
abbrev cX3_isRank : ByteArray := prog_1_method_47_code
def yX3_isRank : MethodName := ⟨RX3, "isRank", "(I)Z"⟩
abbrev cX3_isNerve : ByteArray := prog_1_method_48_code
def yX3_isNerve : MethodName := ⟨RX3, "isNerve", "(I)Z"⟩
abbrev cX3_isBeats : ByteArray := prog_1_method_49_code
def yX3_isBeats : MethodName := ⟨RX3, "isBeats", "(I)Z"⟩
abbrev cX3_demandGoose : ByteArray := prog_1_method_50_code
def yX3_demandGoose : MethodName := ⟨RX3, "demandGoose", "(I)V"⟩
abbrev cX3_demandVisitor : ByteArray := prog_1_method_51_code
def yX3_demandVisitor : MethodName := ⟨RX3, "demandVisitor", "(I)V"⟩
abbrev cX3_demandIndex : ByteArray := prog_1_method_52_code
def yX3_demandIndex : MethodName := ⟨RX3, "demandIndex", "(Z)V"⟩
abbrev cX3_demandArgument : ByteArray := prog_1_method_53_code
def yX3_demandArgument : MethodName := ⟨RX3, "demandArgument", "(Z)V"⟩
abbrev cX3_demandState : ByteArray := prog_1_method_54_code
def yX3_demandState : MethodName := ⟨RX3, "demandState", "(Z)V"⟩
def RX4 : String := "GooseCodexModel"
def TX4 : u_T := fun k => match k with
  | 0 => ("GooseCodexModel", "thrown", "I", false)
  | 1 => ("GooseCodexModel", "gates", "I", false)
  | 2 => ("GooseCodexModel", "geese", "I", false)
  | 3 => ("GooseCodexModel", "visitors", "I", false)
  | 4 => ("GooseCodexModel", "rank", "[I", true)
  | 5 => ("GooseCodexModel", "keeps", "[I", true)
  | 6 => ("GooseCodexModel", "own", "[I", true)
  | 7 => ("GooseCodexModel", "now", "[I", true)
  | _ => ("GooseCodexModel", "kept", "[I", true)
def tyX4 : Nat → FieldType := fun k => match k with
  | 0 => .int
  | 1 => .int
  | 2 => .int
  | 3 => .int
  | 4 => .array .int
  | 5 => .array .int
  | 6 => .array .int
  | 7 => .array .int
  | _ => .array .int
abbrev wsX40 : List Cond := u_ws RX4 TX4 9
theorem nmX4 : ∀ a, a < 9 → ∀ b, b < 9 → a ≠ b → (TX4 a).2.1 ≠ (TX4 b).2.1 := by decide +kernel
theorem tyX4_ok : ∀ k, k < 9 → parseFieldDescriptor (TX4 k).2.2.1 = some (tyX4 k) := by decide +kernel
abbrev cX4_init : ByteArray := prog_6_method_1_code
def yX4_init : MethodName := ⟨RX4, "<init>", "()V"⟩
abbrev cX4_thrown : ByteArray := prog_6_method_2_code
def yX4_thrown : MethodName := ⟨RX4, "thrown", "()I"⟩
abbrev cX4_fail : ByteArray := prog_6_method_3_code
def yX4_fail : MethodName := ⟨RX4, "fail", "(I)I"⟩
abbrev cX4_told : ByteArray := prog_6_method_4_code
def yX4_told : MethodName := ⟨RX4, "told", "(I)I"⟩
abbrev cX4_isIn : ByteArray := prog_6_method_5_code
def yX4_isIn : MethodName := ⟨RX4, "isIn", "(III)Z"⟩
abbrev cX4_isGate : ByteArray := prog_6_method_6_code
def yX4_isGate : MethodName := ⟨RX4, "isGate", "(I)Z"⟩
abbrev cX4_isGoose : ByteArray := prog_6_method_7_code
def yX4_isGoose : MethodName := ⟨RX4, "isGoose", "(I)Z"⟩
abbrev cX4_isVisitor : ByteArray := prog_6_method_8_code
def yX4_isVisitor : MethodName := ⟨RX4, "isVisitor", "(I)Z"⟩
abbrev cX4_go : ByteArray := prog_6_method_9_code
def yX4_go : MethodName := ⟨RX4, "go", "(II)I"⟩
abbrev cX4_put : ByteArray := prog_6_method_10_code
def yX4_put : MethodName := ⟨RX4, "put", "(III)V"⟩
abbrev cX4_vi : ByteArray := prog_6_method_11_code
def yX4_vi : MethodName := ⟨RX4, "vi", "(II)I"⟩
abbrev cX4_let : ByteArray := prog_6_method_12_code
def yX4_let : MethodName := ⟨RX4, "let", "(III)V"⟩
abbrev cX4_keep : ByteArray := prog_6_method_13_code
def yX4_keep : MethodName := ⟨RX4, "keep", "()V"⟩
abbrev cX4_bringBack : ByteArray := prog_6_method_14_code
def yX4_bringBack : MethodName := ⟨RX4, "bringBack", "()V"⟩
abbrev cX4_isAwake : ByteArray := prog_6_method_15_code
def yX4_isAwake : MethodName := ⟨RX4, "isAwake", "(II)Z"⟩
abbrev cX4_more : ByteArray := prog_6_method_16_code
def yX4_more : MethodName := ⟨RX4, "more", "(II)I"⟩
abbrev cX4_hiss : ByteArray := prog_6_method_17_code
def yX4_hiss : MethodName := ⟨RX4, "hiss", "(II)I"⟩
abbrev cX4_isIn_ : ByteArray := prog_6_method_18_code
def yX4_isIn_ : MethodName := ⟨RX4, "isIn", "(I)Z"⟩
abbrev cX4_hissNow : ByteArray := prog_6_method_19_code
def yX4_hissNow : MethodName := ⟨RX4, "hissNow", "(I)I"⟩
abbrev cX4_grade : ByteArray := prog_6_method_20_code
def yX4_grade : MethodName := ⟨RX4, "grade", "(I)I"⟩
abbrev cX4_angriest : ByteArray := prog_6_method_21_code
def yX4_angriest : MethodName := ⟨RX4, "angriest", "(I)I"⟩
abbrev cX4_feed : ByteArray := prog_6_method_22_code
def yX4_feed : MethodName := ⟨RX4, "feed", "(II)V"⟩
abbrev cX4_move : ByteArray := prog_6_method_23_code
def yX4_move : MethodName := ⟨RX4, "move", "(I)V"⟩
abbrev cX4_beatOn : ByteArray := prog_6_method_24_code
def yX4_beatOn : MethodName := ⟨RX4, "beatOn", "()V"⟩
abbrev cX4_beatsOn : ByteArray := prog_6_method_25_code
def yX4_beatsOn : MethodName := ⟨RX4, "beatsOn", "(I)V"⟩
abbrev cX4_inside : ByteArray := prog_6_method_26_code
def yX4_inside : MethodName := ⟨RX4, "inside", "()I"⟩
abbrev cX4_addGate : ByteArray := prog_6_method_27_code
def yX4_addGate : MethodName := ⟨RX4, "addGate", "(I)I"⟩
abbrev cX4_addGoose : ByteArray := prog_6_method_28_code
def yX4_addGoose : MethodName := ⟨RX4, "addGoose", "(II)I"⟩
abbrev cX4_arrive : ByteArray := prog_6_method_29_code
def yX4_arrive : MethodName := ⟨RX4, "arrive", "(III)I"⟩
abbrev cX4_setRank : ByteArray := prog_6_method_30_code
def yX4_setRank : MethodName := ⟨RX4, "setRank", "(II)I"⟩
abbrev cX4_lead : ByteArray := prog_6_method_31_code
def yX4_lead : MethodName := ⟨RX4, "lead", "(II)I"⟩
abbrev cX4_giveCorns : ByteArray := prog_6_method_32_code
def yX4_giveCorns : MethodName := ⟨RX4, "giveCorns", "(II)I"⟩
abbrev cX4_bribe : ByteArray := prog_6_method_33_code
def yX4_bribe : MethodName := ⟨RX4, "bribe", "(II)I"⟩
abbrev cX4_passBeats : ByteArray := prog_6_method_34_code
def yX4_passBeats : MethodName := ⟨RX4, "passBeats", "(I)I"⟩
abbrev cX4_beats : ByteArray := prog_6_method_35_code
def yX4_beats : MethodName := ⟨RX4, "beats", "()I"⟩
abbrev cX4_gates : ByteArray := prog_6_method_36_code
def yX4_gates : MethodName := ⟨RX4, "gates", "()I"⟩
abbrev cX4_geese : ByteArray := prog_6_method_37_code
def yX4_geese : MethodName := ⟨RX4, "geese", "()I"⟩
abbrev cX4_visitors : ByteArray := prog_6_method_38_code
def yX4_visitors : MethodName := ⟨RX4, "visitors", "()I"⟩
abbrev cX4_inFarm : ByteArray := prog_6_method_39_code
def yX4_inFarm : MethodName := ⟨RX4, "inFarm", "()I"⟩
abbrev cX4_bribes : ByteArray := prog_6_method_40_code
def yX4_bribes : MethodName := ⟨RX4, "bribes", "()I"⟩
abbrev cX4_retreats : ByteArray := prog_6_method_41_code
def yX4_retreats : MethodName := ⟨RX4, "retreats", "()I"⟩
abbrev cX4_rankOf : ByteArray := prog_6_method_42_code
def yX4_rankOf : MethodName := ⟨RX4, "rankOf", "(I)I"⟩
abbrev cX4_awake : ByteArray := prog_6_method_43_code
def yX4_awake : MethodName := ⟨RX4, "awake", "(I)I"⟩
abbrev cX4_awakeAt : ByteArray := prog_6_method_44_code
def yX4_awakeAt : MethodName := ⟨RX4, "awakeAt", "(I)I"⟩
abbrev cX4_hissOf : ByteArray := prog_6_method_45_code
def yX4_hissOf : MethodName := ⟨RX4, "hissOf", "(II)I"⟩
abbrev cX4_loudest : ByteArray := prog_6_method_46_code
def yX4_loudest : MethodName := ⟨RX4, "loudest", "()I"⟩
abbrev cX4_loudestGate : ByteArray := prog_6_method_47_code
def yX4_loudestGate : MethodName := ⟨RX4, "loudestGate", "()I"⟩
abbrev cX4_gateOf : ByteArray := prog_6_method_48_code
def yX4_gateOf : MethodName := ⟨RX4, "gateOf", "(I)I"⟩
abbrev cX4_goose : ByteArray := prog_6_method_49_code
def yX4_goose : MethodName := ⟨RX4, "goose", "(II)I"⟩
abbrev cX4_temperOf : ByteArray := prog_6_method_50_code
def yX4_temperOf : MethodName := ⟨RX4, "temperOf", "(I)I"⟩
abbrev cX4_calmFor : ByteArray := prog_6_method_51_code
def yX4_calmFor : MethodName := ⟨RX4, "calmFor", "(I)I"⟩
abbrev cX4_eatenBy : ByteArray := prog_6_method_52_code
def yX4_eatenBy : MethodName := ⟨RX4, "eatenBy", "(I)I"⟩
abbrev cX4_visitor : ByteArray := prog_6_method_53_code
def yX4_visitor : MethodName := ⟨RX4, "visitor", "(II)I"⟩
abbrev cX4_passedBy : ByteArray := prog_6_method_54_code
def yX4_passedBy : MethodName := ⟨RX4, "passedBy", "(I)I"⟩
abbrev cX4_isInFarm : ByteArray := prog_6_method_55_code
def yX4_isInFarm : MethodName := ⟨RX4, "isInFarm", "(I)Z"⟩
abbrev cX4_cornsOf : ByteArray := prog_6_method_56_code
def yX4_cornsOf : MethodName := ⟨RX4, "cornsOf", "(I)I"⟩
abbrev cX4_nerveOf : ByteArray := prog_6_method_57_code
def yX4_nerveOf : MethodName := ⟨RX4, "nerveOf", "(I)I"⟩
abbrev cX4_retreatOf : ByteArray := prog_6_method_58_code
def yX4_retreatOf : MethodName := ⟨RX4, "retreatOf", "(I)I"⟩
abbrev cX4_hissAt : ByteArray := prog_6_method_59_code
def yX4_hissAt : MethodName := ⟨RX4, "hissAt", "(I)I"⟩
abbrev cX4_gradeFor : ByteArray := prog_6_method_60_code
def yX4_gradeFor : MethodName := ⟨RX4, "gradeFor", "(I)I"⟩
abbrev cX4_dare : ByteArray := prog_6_method_61_code
def yX4_dare : MethodName := ⟨RX4, "dare", "(I)Z"⟩
abbrev cX4_dares : ByteArray := prog_6_method_62_code
def yX4_dares : MethodName := ⟨RX4, "dares", "(I)Z"⟩
abbrev cX4_run : ByteArray := prog_6_method_63_code
def yX4_run : MethodName := ⟨RX4, "run", "(II)I"⟩
abbrev cX4_until : ByteArray := prog_6_method_64_code
def yX4_until : MethodName := ⟨RX4, "until", "(I)I"⟩
abbrev cX4_beatsUntilIn : ByteArray := prog_6_method_65_code
def yX4_beatsUntilIn : MethodName := ⟨RX4, "beatsUntilIn", "(I)I"⟩
abbrev cX4_inFarmAfter : ByteArray := prog_6_method_66_code
def yX4_inFarmAfter : MethodName := ⟨RX4, "inFarmAfter", "(I)I"⟩
abbrev cX4_cornsWanted : ByteArray := prog_6_method_67_code
def yX4_cornsWanted : MethodName := ⟨RX4, "cornsWanted", "(I)I"⟩
abbrev cX4_toBribe : ByteArray := prog_6_method_68_code
def yX4_toBribe : MethodName := ⟨RX4, "toBribe", "(I)I"⟩
abbrev cX4_bestToBribe : ByteArray := prog_6_method_69_code
def yX4_bestToBribe : MethodName := ⟨RX4, "bestToBribe", "(I)I"⟩
abbrev cX4_calmWanted : ByteArray := prog_6_method_70_code
def yX4_calmWanted : MethodName := ⟨RX4, "calmWanted", "(I)I"⟩
abbrev cX4_bribesWanted : ByteArray := prog_6_method_71_code
def yX4_bribesWanted : MethodName := ⟨RX4, "bribesWanted", "(I)I"⟩
abbrev cX4_ranked : ByteArray := prog_6_method_72_code
def yX4_ranked : MethodName := ⟨RX4, "ranked", "(I)I"⟩
abbrev cX4_rankWanted : ByteArray := prog_6_method_73_code
def yX4_rankWanted : MethodName := ⟨RX4, "rankWanted", "(I)I"⟩
abbrev cX4_firstBar : ByteArray := prog_6_method_74_code
def yX4_firstBar : MethodName := ⟨RX4, "firstBar", "(II)I"⟩
abbrev cX4_meanTemper : ByteArray := prog_6_method_75_code
def yX4_meanTemper : MethodName := ⟨RX4, "meanTemper", "()D"⟩
abbrev cX4_digest : ByteArray := prog_6_method_76_code
def yX4_digest : MethodName := ⟨RX4, "digest", "()J"⟩
def RJ9 : String := "java/lang/Math"
def TJ9 : u_T := fun k => match k with
  | _ => ("", "", "", false)
def tyJ9 : Nat → FieldType := fun k => match k with
  | _ => .int
abbrev wsJ90 : List Cond := u_ws RJ9 TJ9 0
theorem nmJ9 : ∀ a, a < 0 → ∀ b, b < 0 → a ≠ b → (TJ9 a).2.1 ≠ (TJ9 b).2.1 := by decide +kernel
theorem tyJ9_ok : ∀ k, k < 0 → parseFieldDescriptor (TJ9 k).2.2.1 = some (tyJ9 k) := by decide +kernel
abbrev cJ9_max_7cf53 : ByteArray := prog_11_method_65_code
def yJ9_max_7cf53 : MethodName := ⟨RJ9, "max", "(II)I"⟩
abbrev cJ9_min_7cf53 : ByteArray := prog_11_method_69_code
def yJ9_min_7cf53 : MethodName := ⟨RJ9, "min", "(II)I"⟩
def RJ0 : String := "java/lang/String"
def TJ0 : u_T := fun k => match k with
  | _ => ("", "", "", false)
def tyJ0 : Nat → FieldType := fun k => match k with
  | _ => .int
abbrev wsJ00 : List Cond := u_ws RJ0 TJ0 0
theorem nmJ0 : ∀ a, a < 0 → ∀ b, b < 0 → a ≠ b → (TJ0 a).2.1 ≠ (TJ0 b).2.1 := by decide +kernel
theorem tyJ0_ok : ∀ k, k < 0 → parseFieldDescriptor (TJ0 k).2.2.1 = some (tyJ0 k) := by decide +kernel
def RJ10 : String := "java/lang/System"
def TJ10 : u_T := fun k => match k with
  | _ => ("", "", "", false)
def tyJ10 : Nat → FieldType := fun k => match k with
  | _ => .int
abbrev wsJ100 : List Cond := u_ws RJ10 TJ10 0
theorem nmJ10 : ∀ a, a < 0 → ∀ b, b < 0 → a ≠ b → (TJ10 a).2.1 ≠ (TJ10 b).2.1 := by decide +kernel
theorem tyJ10_ok : ∀ k, k < 0 → parseFieldDescriptor (TJ10 k).2.2.1 = some (tyJ10 k) := by decide +kernel
def RL : String := "GooseCodexLaw"
abbrev cL_addGate : ByteArray := method_3_code
def yL_addGate : MethodName := ⟨RL, "addGate", "(LGooseCodex;I[J)I"⟩
abbrev cL_addGoose : ByteArray := method_4_code
def yL_addGoose : MethodName := ⟨RL, "addGoose", "(LGooseCodex;II[J)I"⟩
abbrev cL_arrive : ByteArray := method_5_code
def yL_arrive : MethodName := ⟨RL, "arrive", "(LGooseCodex;III[J)I"⟩
abbrev cL_setRank : ByteArray := method_6_code
def yL_setRank : MethodName := ⟨RL, "setRank", "(LGooseCodex;II[J)I"⟩
abbrev cL_lead : ByteArray := method_7_code
def yL_lead : MethodName := ⟨RL, "lead", "(LGooseCodex;II[J)I"⟩
abbrev cL_giveCorns : ByteArray := method_8_code
def yL_giveCorns : MethodName := ⟨RL, "giveCorns", "(LGooseCodex;II[J)I"⟩
abbrev cL_bribe : ByteArray := method_9_code
def yL_bribe : MethodName := ⟨RL, "bribe", "(LGooseCodex;II[J)I"⟩
abbrev cL_passBeats : ByteArray := method_10_code
def yL_passBeats : MethodName := ⟨RL, "passBeats", "(LGooseCodex;I[J)I"⟩
abbrev cL_rankOf : ByteArray := method_11_code
def yL_rankOf : MethodName := ⟨RL, "rankOf", "(LGooseCodex;I[J)I"⟩
abbrev cL_awakeAt : ByteArray := method_12_code
def yL_awakeAt : MethodName := ⟨RL, "awakeAt", "(LGooseCodex;I[J)I"⟩
abbrev cL_hissOf : ByteArray := method_13_code
def yL_hissOf : MethodName := ⟨RL, "hissOf", "(LGooseCodex;II[J)I"⟩
abbrev cL_gateOf : ByteArray := method_14_code
def yL_gateOf : MethodName := ⟨RL, "gateOf", "(LGooseCodex;I[J)I"⟩
abbrev cL_temperOf : ByteArray := method_15_code
def yL_temperOf : MethodName := ⟨RL, "temperOf", "(LGooseCodex;I[J)I"⟩
abbrev cL_calmFor : ByteArray := method_16_code
def yL_calmFor : MethodName := ⟨RL, "calmFor", "(LGooseCodex;I[J)I"⟩
abbrev cL_eatenBy : ByteArray := method_17_code
def yL_eatenBy : MethodName := ⟨RL, "eatenBy", "(LGooseCodex;I[J)I"⟩
abbrev cL_passedBy : ByteArray := method_18_code
def yL_passedBy : MethodName := ⟨RL, "passedBy", "(LGooseCodex;I[J)I"⟩
abbrev cL_isInFarm : ByteArray := method_19_code
def yL_isInFarm : MethodName := ⟨RL, "isInFarm", "(LGooseCodex;I[J)I"⟩
abbrev cL_cornsOf : ByteArray := method_20_code
def yL_cornsOf : MethodName := ⟨RL, "cornsOf", "(LGooseCodex;I[J)I"⟩
abbrev cL_nerveOf : ByteArray := method_21_code
def yL_nerveOf : MethodName := ⟨RL, "nerveOf", "(LGooseCodex;I[J)I"⟩
abbrev cL_retreatOf : ByteArray := method_22_code
def yL_retreatOf : MethodName := ⟨RL, "retreatOf", "(LGooseCodex;I[J)I"⟩
abbrev cL_hissAt : ByteArray := method_23_code
def yL_hissAt : MethodName := ⟨RL, "hissAt", "(LGooseCodex;I[J)I"⟩
abbrev cL_gradeFor : ByteArray := method_24_code
def yL_gradeFor : MethodName := ⟨RL, "gradeFor", "(LGooseCodex;I[J)I"⟩
abbrev cL_dares : ByteArray := method_25_code
def yL_dares : MethodName := ⟨RL, "dares", "(LGooseCodex;I[J)I"⟩
abbrev cL_beatsUntilIn : ByteArray := method_26_code
def yL_beatsUntilIn : MethodName := ⟨RL, "beatsUntilIn", "(LGooseCodex;I[J)I"⟩
abbrev cL_inFarmAfter : ByteArray := method_27_code
def yL_inFarmAfter : MethodName := ⟨RL, "inFarmAfter", "(LGooseCodex;I[J)I"⟩
abbrev cL_cornsWanted : ByteArray := method_28_code
def yL_cornsWanted : MethodName := ⟨RL, "cornsWanted", "(LGooseCodex;I[J)I"⟩
abbrev cL_bestToBribe : ByteArray := method_29_code
def yL_bestToBribe : MethodName := ⟨RL, "bestToBribe", "(LGooseCodex;I[J)I"⟩
abbrev cL_bribesWanted : ByteArray := method_30_code
def yL_bribesWanted : MethodName := ⟨RL, "bribesWanted", "(LGooseCodex;I[J)I"⟩
abbrev cL_rankWanted : ByteArray := method_31_code
def yL_rankWanted : MethodName := ⟨RL, "rankWanted", "(LGooseCodex;I[J)I"⟩
abbrev cL_firstBar : ByteArray := method_32_code
def yL_firstBar : MethodName := ⟨RL, "firstBar", "(LGooseCodex;II[J)I"⟩
abbrev cL_law : ByteArray := code
def yL_law : MethodName := ⟨RL, "law", "([I)Z"⟩
def wsX1_init : List Cond := .code yX1_init cX1_init 1 none :: ([.methodLink RX1 3 objectInit, .instanceMethod objectInit, .code objectInit ⟨#[0xb1]⟩ 1 none, .arrayClass .int, .fieldLink RX1 9 "GooseCodex$Flock" "gate" "[I", .fieldLink RX1 15 "GooseCodex$Flock" "temper" "[I", .fieldLink RX1 18 "GooseCodex$Flock" "calm" "[I", .fieldLink RX1 21 "GooseCodex$Flock" "eaten" "[I"] ++ wsX10)
def wsX2_init : List Cond := .code yX2_init cX2_init 1 none :: ([.methodLink RX2 3 objectInit, .instanceMethod objectInit, .code objectInit ⟨#[0xb1]⟩ 1 none, .arrayClass .int, .fieldLink RX2 9 "GooseCodex$Guests" "rank" "[I", .fieldLink RX2 15 "GooseCodex$Guests" "nerve" "[I", .fieldLink RX2 18 "GooseCodex$Guests" "corns" "[I", .fieldLink RX2 21 "GooseCodex$Guests" "passed" "[I", .fieldLink RX2 24 "GooseCodex$Guests" "retreat" "[I"] ++ wsX20)
def wsX0_init_r1 : List Cond := [Cond.methodLink RX0 3 objectInit, Cond.instanceMethod objectInit, Cond.code objectInit ⟨#[0xb1]⟩ 1 none, Cond.arrayClass .int, Cond.fieldLink RX0 9 "GooseCodex$Farm" "ranks" "[I", Cond.classLink RX0 15 RX1, Cond.instantiable RX1 5, Cond.initialized RX1, Cond.fieldLink RX0 18 "GooseCodex$Farm" "flock" "LGooseCodex$Flock;", Cond.classLink RX0 22 RX2, Cond.instantiable RX2 6, Cond.initialized RX2, Cond.fieldLink RX0 25 "GooseCodex$Farm" "guests" "LGooseCodex$Guests;", Cond.instanceMethod yX1_init, Cond.code yX1_init cX1_init 1 none, Cond.methodLink RX1 3 objectInit, Cond.fieldLink RX1 9 "GooseCodex$Flock" "gate" "[I", Cond.fieldLink RX1 15 "GooseCodex$Flock" "temper" "[I", Cond.fieldLink RX1 18 "GooseCodex$Flock" "calm" "[I", Cond.fieldLink RX1 21 "GooseCodex$Flock" "eaten" "[I", Cond.instanceMethod yX2_init, Cond.code yX2_init cX2_init 1 none, Cond.methodLink RX2 3 objectInit, Cond.fieldLink RX2 9 "GooseCodex$Guests" "rank" "[I"]
def wsX0_init_r2 : List Cond := [Cond.fieldLink RX2 15 "GooseCodex$Guests" "nerve" "[I", Cond.fieldLink RX2 18 "GooseCodex$Guests" "corns" "[I", Cond.fieldLink RX2 21 "GooseCodex$Guests" "passed" "[I", Cond.fieldLink RX2 24 "GooseCodex$Guests" "retreat" "[I"]
def wsX0_init : List Cond := .code yX0_init cX0_init 1 none :: ((wsX0_init_r1 ++ wsX0_init_r2) ++ wsX00 ++ wsX10 ++ wsX20)
def wsX0_hasGate : List Cond := .code yX0_hasGate cX0_hasGate 2 (some .boolean) :: ([.fieldLink RX0 29 "GooseCodex$Farm" "gateCount" "I"] ++ wsX00)
def wsX0_putGate : List Cond := .code yX0_putGate cX0_putGate 3 (some .int) :: ([.fieldLink RX0 29 "GooseCodex$Farm" "gateCount" "I", .fieldLink RX0 9 "GooseCodex$Farm" "ranks" "[I"] ++ wsX00)
def wsX0_rankLack : List Cond := .code yX0_rankLack cX0_rankLack 3 (some .int) :: ([.fieldLink RX0 9 "GooseCodex$Farm" "ranks" "[I", .methodLink RX0 37 Lib.Math.max.name, .static Lib.Math.max.name, .initialized "java/lang/Math", .code Lib.Math.max.name Lib.Math.max.code 2 (some .int), .methodLink RX0 33 yX0_hasGate, .instanceMethod yX0_hasGate, .selects RX0 yX0_hasGate yX0_hasGate, .initialized RX0, .code yX0_hasGate cX0_hasGate 2 (some .boolean), .fieldLink RX0 29 "GooseCodex$Farm" "gateCount" "I"] ++ wsX00)
def wsX1_isAwakeThere : List Cond := .code yX1_isAwakeThere cX1_isAwakeThere 3 (some .boolean) :: ([.fieldLink RX1 9 "GooseCodex$Flock" "gate" "[I", .fieldLink RX1 18 "GooseCodex$Flock" "calm" "[I"] ++ wsX10)
def wsX1_hissThere : List Cond := .code yX1_hissThere cX1_hissThere 5 (some .int) :: ([.fieldLink RX1 24 "GooseCodex$Flock" "count" "I", .fieldLink RX1 15 "GooseCodex$Flock" "temper" "[I", .methodLink RX1 28 yX1_isAwakeThere, .instanceMethod yX1_isAwakeThere, .selects RX1 yX1_isAwakeThere yX1_isAwakeThere, .initialized RX1, .code yX1_isAwakeThere cX1_isAwakeThere 3 (some .boolean), .fieldLink RX1 9 "GooseCodex$Flock" "gate" "[I", .fieldLink RX1 18 "GooseCodex$Flock" "calm" "[I"] ++ wsX10)
def wsX0_gateHiss_r1 : List Cond := [Cond.fieldLink RX0 18 "GooseCodex$Farm" "flock" "LGooseCodex$Flock;", Cond.methodLink RX0 43 yX0_rankLack, Cond.instanceMethod yX0_rankLack, Cond.selects RX0 yX0_rankLack yX0_rankLack, Cond.initialized RX0, Cond.code yX0_rankLack cX0_rankLack 3 (some .int), Cond.fieldLink RX0 9 "GooseCodex$Farm" "ranks" "[I", Cond.methodLink RX0 37 Lib.Math.max.name, Cond.static Lib.Math.max.name, Cond.initialized "java/lang/Math", Cond.code Lib.Math.max.name Lib.Math.max.code 2 (some .int), Cond.methodLink RX0 33 yX0_hasGate, Cond.instanceMethod yX0_hasGate, Cond.selects RX0 yX0_hasGate yX0_hasGate, Cond.code yX0_hasGate cX0_hasGate 2 (some .boolean), Cond.fieldLink RX0 29 "GooseCodex$Farm" "gateCount" "I", Cond.methodLink RX0 46 yX1_hissThere, Cond.instanceMethod yX1_hissThere, Cond.selects RX1 yX1_hissThere yX1_hissThere, Cond.initialized RX1, Cond.code yX1_hissThere cX1_hissThere 5 (some .int), Cond.fieldLink RX1 24 "GooseCodex$Flock" "count" "I", Cond.fieldLink RX1 15 "GooseCodex$Flock" "temper" "[I", Cond.methodLink RX1 28 yX1_isAwakeThere]
def wsX0_gateHiss_r2 : List Cond := [Cond.instanceMethod yX1_isAwakeThere, Cond.selects RX1 yX1_isAwakeThere yX1_isAwakeThere, Cond.code yX1_isAwakeThere cX1_isAwakeThere 3 (some .boolean), Cond.fieldLink RX1 9 "GooseCodex$Flock" "gate" "[I", Cond.fieldLink RX1 18 "GooseCodex$Flock" "calm" "[I"]
def wsX0_gateHiss : List Cond := .code yX0_gateHiss cX0_gateHiss 3 (some .int) :: ((wsX0_gateHiss_r1 ++ wsX0_gateHiss_r2) ++ wsX00 ++ wsX10)
def wsX0_guestHiss_r1 : List Cond := [Cond.fieldLink RX0 25 "GooseCodex$Farm" "guests" "LGooseCodex$Guests;", Cond.fieldLink RX0 49 "GooseCodex$Guests" "passed" "[I", Cond.fieldLink RX0 52 "GooseCodex$Guests" "rank" "[I", Cond.methodLink RX0 55 yX0_gateHiss, Cond.instanceMethod yX0_gateHiss, Cond.selects RX0 yX0_gateHiss yX0_gateHiss, Cond.initialized RX0, Cond.code yX0_gateHiss cX0_gateHiss 3 (some .int), Cond.fieldLink RX0 18 "GooseCodex$Farm" "flock" "LGooseCodex$Flock;", Cond.methodLink RX0 43 yX0_rankLack, Cond.instanceMethod yX0_rankLack, Cond.selects RX0 yX0_rankLack yX0_rankLack, Cond.code yX0_rankLack cX0_rankLack 3 (some .int), Cond.fieldLink RX0 9 "GooseCodex$Farm" "ranks" "[I", Cond.methodLink RX0 37 Lib.Math.max.name, Cond.static Lib.Math.max.name, Cond.initialized "java/lang/Math", Cond.code Lib.Math.max.name Lib.Math.max.code 2 (some .int), Cond.methodLink RX0 33 yX0_hasGate, Cond.instanceMethod yX0_hasGate, Cond.selects RX0 yX0_hasGate yX0_hasGate, Cond.code yX0_hasGate cX0_hasGate 2 (some .boolean), Cond.fieldLink RX0 29 "GooseCodex$Farm" "gateCount" "I", Cond.methodLink RX0 46 yX1_hissThere]
def wsX0_guestHiss_r2 : List Cond := [Cond.instanceMethod yX1_hissThere, Cond.selects RX1 yX1_hissThere yX1_hissThere, Cond.initialized RX1, Cond.code yX1_hissThere cX1_hissThere 5 (some .int), Cond.fieldLink RX1 24 "GooseCodex$Flock" "count" "I", Cond.fieldLink RX1 15 "GooseCodex$Flock" "temper" "[I", Cond.methodLink RX1 28 yX1_isAwakeThere, Cond.instanceMethod yX1_isAwakeThere, Cond.selects RX1 yX1_isAwakeThere yX1_isAwakeThere, Cond.code yX1_isAwakeThere cX1_isAwakeThere 3 (some .boolean), Cond.fieldLink RX1 9 "GooseCodex$Flock" "gate" "[I", Cond.fieldLink RX1 18 "GooseCodex$Flock" "calm" "[I"]
def wsX0_guestHiss : List Cond := .code yX0_guestHiss cX0_guestHiss 2 (some .int) :: ((wsX0_guestHiss_r1 ++ wsX0_guestHiss_r2) ++ wsX00 ++ wsX20 ++ wsX10)
def wsX0_isBehindAll : List Cond := .code yX0_isBehindAll cX0_isBehindAll 2 (some .boolean) :: ([.fieldLink RX0 25 "GooseCodex$Farm" "guests" "LGooseCodex$Guests;", .fieldLink RX0 49 "GooseCodex$Guests" "passed" "[I", .fieldLink RX0 29 "GooseCodex$Farm" "gateCount" "I"] ++ wsX00 ++ wsX20)
def wsX0_countInside : List Cond := .code yX0_countInside cX0_countInside 3 (some .int) :: ([.fieldLink RX0 25 "GooseCodex$Farm" "guests" "LGooseCodex$Guests;", .fieldLink RX0 58 "GooseCodex$Guests" "count" "I", .methodLink RX0 61 yX0_isBehindAll, .instanceMethod yX0_isBehindAll, .selects RX0 yX0_isBehindAll yX0_isBehindAll, .initialized RX0, .code yX0_isBehindAll cX0_isBehindAll 2 (some .boolean), .fieldLink RX0 49 "GooseCodex$Guests" "passed" "[I", .fieldLink RX0 29 "GooseCodex$Farm" "gateCount" "I"] ++ wsX00 ++ wsX20)
def wsX1_feed : List Cond := .code yX1_feed cX1_feed 2 none :: ([.fieldLink RX1 21 "GooseCodex$Flock" "eaten" "[I", .fieldLink RX1 18 "GooseCodex$Flock" "calm" "[I", .fieldLink RX1 15 "GooseCodex$Flock" "temper" "[I", .methodLink RX1 32 Lib.Math.max.name, .static Lib.Math.max.name, .initialized "java/lang/Math", .code Lib.Math.max.name Lib.Math.max.code 2 (some .int)] ++ wsX10)
def wsX0_payGoose : List Cond := .code yX0_payGoose cX0_payGoose 3 none :: ([.fieldLink RX0 25 "GooseCodex$Farm" "guests" "LGooseCodex$Guests;", .fieldLink RX0 64 "GooseCodex$Guests" "corns" "[I", .fieldLink RX0 18 "GooseCodex$Farm" "flock" "LGooseCodex$Flock;", .fieldLink RX0 71 "GooseCodex$Farm" "bribeCount" "I", .methodLink RX0 67 yX1_feed, .instanceMethod yX1_feed, .selects RX1 yX1_feed yX1_feed, .initialized RX1, .code yX1_feed cX1_feed 2 none, .fieldLink RX1 21 "GooseCodex$Flock" "eaten" "[I", .fieldLink RX1 18 "GooseCodex$Flock" "calm" "[I", .fieldLink RX1 15 "GooseCodex$Flock" "temper" "[I", .methodLink RX1 32 Lib.Math.max.name, .static Lib.Math.max.name, .initialized "java/lang/Math", .code Lib.Math.max.name Lib.Math.max.code 2 (some .int)] ++ wsX00 ++ wsX20 ++ wsX10)
def wsX0_fewestToCalm_r1 : List Cond := [Cond.fieldLink RX0 25 "GooseCodex$Farm" "guests" "LGooseCodex$Guests;", Cond.fieldLink RX0 49 "GooseCodex$Guests" "passed" "[I", Cond.fieldLink RX0 52 "GooseCodex$Guests" "rank" "[I", Cond.fieldLink RX0 18 "GooseCodex$Farm" "flock" "LGooseCodex$Flock;", Cond.fieldLink RX0 78 "GooseCodex$Flock" "count" "I", Cond.fieldLink RX0 79 "GooseCodex$Guests" "nerve" "[I", Cond.fieldLink RX0 82 "GooseCodex$Flock" "temper" "[I", Cond.methodLink RX0 43 yX0_rankLack, Cond.instanceMethod yX0_rankLack, Cond.selects RX0 yX0_rankLack yX0_rankLack, Cond.initialized RX0, Cond.code yX0_rankLack cX0_rankLack 3 (some .int), Cond.fieldLink RX0 9 "GooseCodex$Farm" "ranks" "[I", Cond.methodLink RX0 37 Lib.Math.max.name, Cond.static Lib.Math.max.name, Cond.initialized "java/lang/Math", Cond.code Lib.Math.max.name Lib.Math.max.code 2 (some .int), Cond.methodLink RX0 33 yX0_hasGate, Cond.instanceMethod yX0_hasGate, Cond.selects RX0 yX0_hasGate yX0_hasGate, Cond.code yX0_hasGate cX0_hasGate 2 (some .boolean), Cond.fieldLink RX0 29 "GooseCodex$Farm" "gateCount" "I", Cond.methodLink RX0 74 yX0_guestHiss, Cond.instanceMethod yX0_guestHiss]
def wsX0_fewestToCalm_r2 : List Cond := [Cond.selects RX0 yX0_guestHiss yX0_guestHiss, Cond.code yX0_guestHiss cX0_guestHiss 2 (some .int), Cond.methodLink RX0 55 yX0_gateHiss, Cond.instanceMethod yX0_gateHiss, Cond.selects RX0 yX0_gateHiss yX0_gateHiss, Cond.code yX0_gateHiss cX0_gateHiss 3 (some .int), Cond.methodLink RX0 46 yX1_hissThere, Cond.instanceMethod yX1_hissThere, Cond.selects RX1 yX1_hissThere yX1_hissThere, Cond.initialized RX1, Cond.code yX1_hissThere cX1_hissThere 5 (some .int), Cond.fieldLink RX1 24 "GooseCodex$Flock" "count" "I", Cond.fieldLink RX1 15 "GooseCodex$Flock" "temper" "[I", Cond.methodLink RX1 28 yX1_isAwakeThere, Cond.instanceMethod yX1_isAwakeThere, Cond.selects RX1 yX1_isAwakeThere yX1_isAwakeThere, Cond.code yX1_isAwakeThere cX1_isAwakeThere 3 (some .boolean), Cond.fieldLink RX1 9 "GooseCodex$Flock" "gate" "[I", Cond.fieldLink RX1 18 "GooseCodex$Flock" "calm" "[I", Cond.methodLink RX0 85 yX1_isAwakeThere]
def wsX0_fewestToCalm : List Cond := .code yX0_fewestToCalm cX0_fewestToCalm 8 (some .int) :: ((wsX0_fewestToCalm_r1 ++ wsX0_fewestToCalm_r2) ++ wsX00 ++ wsX20 ++ wsX10)
def wsX1_wakeByABeat : List Cond := .code yX1_wakeByABeat cX1_wakeByABeat 2 none :: ([.fieldLink RX1 24 "GooseCodex$Flock" "count" "I", .fieldLink RX1 18 "GooseCodex$Flock" "calm" "[I"] ++ wsX10)
def wsX1_enrage : List Cond := .code yX1_enrage cX1_enrage 3 none :: ([.fieldLink RX1 24 "GooseCodex$Flock" "count" "I", .fieldLink RX1 15 "GooseCodex$Flock" "temper" "[I", .methodLink RX1 38 Lib.Math.min.name, .static Lib.Math.min.name, .initialized "java/lang/Math", .code Lib.Math.min.name Lib.Math.min.code 2 (some .int), .methodLink RX1 28 yX1_isAwakeThere, .instanceMethod yX1_isAwakeThere, .selects RX1 yX1_isAwakeThere yX1_isAwakeThere, .initialized RX1, .code yX1_isAwakeThere cX1_isAwakeThere 3 (some .boolean), .fieldLink RX1 9 "GooseCodex$Flock" "gate" "[I", .fieldLink RX1 18 "GooseCodex$Flock" "calm" "[I"] ++ wsX10)
def wsX1_fiercestAwake : List Cond := .code yX1_fiercestAwake cX1_fiercestAwake 5 (some .int) :: ([.fieldLink RX1 24 "GooseCodex$Flock" "count" "I", .fieldLink RX1 15 "GooseCodex$Flock" "temper" "[I", .methodLink RX1 28 yX1_isAwakeThere, .instanceMethod yX1_isAwakeThere, .selects RX1 yX1_isAwakeThere yX1_isAwakeThere, .initialized RX1, .code yX1_isAwakeThere cX1_isAwakeThere 3 (some .boolean), .fieldLink RX1 9 "GooseCodex$Flock" "gate" "[I", .fieldLink RX1 18 "GooseCodex$Flock" "calm" "[I"] ++ wsX10)
def wsX1_hasGoose : List Cond := .code yX1_hasGoose cX1_hasGoose 2 (some .boolean) :: ([.fieldLink RX1 24 "GooseCodex$Flock" "count" "I"] ++ wsX10)
def wsX3_gradeOfHiss : List Cond := .code yX3_gradeOfHiss cX3_gradeOfHiss 1 (some .int) :: ([])
def wsX2_fallBack : List Cond := .code yX2_fallBack cX2_fallBack 3 none :: ([.fieldLink RX2 24 "GooseCodex$Guests" "retreat" "[I", .fieldLink RX2 15 "GooseCodex$Guests" "nerve" "[I", .methodLink RX2 31 Lib.Math.min.name, .static Lib.Math.min.name, .initialized "java/lang/Math", .code Lib.Math.min.name Lib.Math.min.code 2 (some .int), .fieldLink RX2 21 "GooseCodex$Guests" "passed" "[I"] ++ wsX20)
def wsX0_moveGuest_r1 : List Cond := [Cond.fieldLink RX0 25 "GooseCodex$Farm" "guests" "LGooseCodex$Guests;", Cond.fieldLink RX0 101 "GooseCodex$Guests" "retreat" "[I", Cond.fieldLink RX0 49 "GooseCodex$Guests" "passed" "[I", Cond.fieldLink RX0 52 "GooseCodex$Guests" "rank" "[I", Cond.fieldLink RX0 79 "GooseCodex$Guests" "nerve" "[I", Cond.fieldLink RX0 18 "GooseCodex$Farm" "flock" "LGooseCodex$Flock;", Cond.fieldLink RX0 64 "GooseCodex$Guests" "corns" "[I", Cond.fieldLink RX0 123 "GooseCodex$Farm" "retreatCount" "I", Cond.methodLink RX0 55 yX0_gateHiss, Cond.instanceMethod yX0_gateHiss, Cond.selects RX0 yX0_gateHiss yX0_gateHiss, Cond.initialized RX0, Cond.code yX0_gateHiss cX0_gateHiss 3 (some .int), Cond.methodLink RX0 43 yX0_rankLack, Cond.instanceMethod yX0_rankLack, Cond.selects RX0 yX0_rankLack yX0_rankLack, Cond.code yX0_rankLack cX0_rankLack 3 (some .int), Cond.fieldLink RX0 9 "GooseCodex$Farm" "ranks" "[I", Cond.methodLink RX0 37 Lib.Math.max.name, Cond.static Lib.Math.max.name, Cond.initialized "java/lang/Math", Cond.code Lib.Math.max.name Lib.Math.max.code 2 (some .int), Cond.methodLink RX0 33 yX0_hasGate, Cond.instanceMethod yX0_hasGate]
def wsX0_moveGuest_r2 : List Cond := [Cond.selects RX0 yX0_hasGate yX0_hasGate, Cond.code yX0_hasGate cX0_hasGate 2 (some .boolean), Cond.fieldLink RX0 29 "GooseCodex$Farm" "gateCount" "I", Cond.methodLink RX0 46 yX1_hissThere, Cond.instanceMethod yX1_hissThere, Cond.selects RX1 yX1_hissThere yX1_hissThere, Cond.initialized RX1, Cond.code yX1_hissThere cX1_hissThere 5 (some .int), Cond.fieldLink RX1 24 "GooseCodex$Flock" "count" "I", Cond.fieldLink RX1 15 "GooseCodex$Flock" "temper" "[I", Cond.methodLink RX1 28 yX1_isAwakeThere, Cond.instanceMethod yX1_isAwakeThere, Cond.selects RX1 yX1_isAwakeThere yX1_isAwakeThere, Cond.code yX1_isAwakeThere cX1_isAwakeThere 3 (some .boolean), Cond.fieldLink RX1 9 "GooseCodex$Flock" "gate" "[I", Cond.fieldLink RX1 18 "GooseCodex$Flock" "calm" "[I", Cond.methodLink RX0 104 yX1_enrage, Cond.instanceMethod yX1_enrage, Cond.selects RX1 yX1_enrage yX1_enrage, Cond.code yX1_enrage cX1_enrage 3 none, Cond.methodLink RX1 38 Lib.Math.min.name, Cond.static Lib.Math.min.name, Cond.code Lib.Math.min.name Lib.Math.min.code 2 (some .int), Cond.methodLink RX0 107 yX1_fiercestAwake]
def wsX0_moveGuest_r3 : List Cond := [Cond.instanceMethod yX1_fiercestAwake, Cond.selects RX1 yX1_fiercestAwake yX1_fiercestAwake, Cond.code yX1_fiercestAwake cX1_fiercestAwake 5 (some .int), Cond.methodLink RX0 110 yX1_hasGoose, Cond.instanceMethod yX1_hasGoose, Cond.selects RX1 yX1_hasGoose yX1_hasGoose, Cond.code yX1_hasGoose cX1_hasGoose 2 (some .boolean), Cond.methodLink RX0 113 yX0_payGoose, Cond.instanceMethod yX0_payGoose, Cond.selects RX0 yX0_payGoose yX0_payGoose, Cond.code yX0_payGoose cX0_payGoose 3 none, Cond.fieldLink RX0 71 "GooseCodex$Farm" "bribeCount" "I", Cond.methodLink RX0 67 yX1_feed, Cond.instanceMethod yX1_feed, Cond.selects RX1 yX1_feed yX1_feed, Cond.code yX1_feed cX1_feed 2 none, Cond.fieldLink RX1 21 "GooseCodex$Flock" "eaten" "[I", Cond.methodLink RX1 32 Lib.Math.max.name, Cond.static yX3_gradeOfHiss, Cond.initialized RX3, Cond.code yX3_gradeOfHiss cX3_gradeOfHiss 1 (some .int), Cond.methodLink RX0 120 yX2_fallBack, Cond.instanceMethod yX2_fallBack, Cond.selects RX2 yX2_fallBack yX2_fallBack]
def wsX0_moveGuest_r4 : List Cond := [Cond.initialized RX2, Cond.code yX2_fallBack cX2_fallBack 3 none, Cond.fieldLink RX2 24 "GooseCodex$Guests" "retreat" "[I", Cond.fieldLink RX2 15 "GooseCodex$Guests" "nerve" "[I", Cond.methodLink RX2 31 Lib.Math.min.name, Cond.fieldLink RX2 21 "GooseCodex$Guests" "passed" "[I"]
def wsX0_moveGuest : List Cond := .code yX0_moveGuest cX0_moveGuest 5 none :: ((wsX0_moveGuest_r1 ++ (wsX0_moveGuest_r2 ++ (wsX0_moveGuest_r3 ++ wsX0_moveGuest_r4))) ++ wsX00 ++ wsX20 ++ wsX10)
def wsX0_runBeat_r1 : List Cond := [Cond.fieldLink RX0 18 "GooseCodex$Farm" "flock" "LGooseCodex$Flock;", Cond.fieldLink RX0 25 "GooseCodex$Farm" "guests" "LGooseCodex$Guests;", Cond.fieldLink RX0 58 "GooseCodex$Guests" "count" "I", Cond.fieldLink RX0 98 "GooseCodex$Farm" "beat" "I", Cond.methodLink RX0 92 yX1_wakeByABeat, Cond.instanceMethod yX1_wakeByABeat, Cond.selects RX1 yX1_wakeByABeat yX1_wakeByABeat, Cond.initialized RX1, Cond.code yX1_wakeByABeat cX1_wakeByABeat 2 none, Cond.fieldLink RX1 24 "GooseCodex$Flock" "count" "I", Cond.fieldLink RX1 18 "GooseCodex$Flock" "calm" "[I", Cond.methodLink RX0 61 yX0_isBehindAll, Cond.instanceMethod yX0_isBehindAll, Cond.selects RX0 yX0_isBehindAll yX0_isBehindAll, Cond.initialized RX0, Cond.code yX0_isBehindAll cX0_isBehindAll 2 (some .boolean), Cond.fieldLink RX0 49 "GooseCodex$Guests" "passed" "[I", Cond.fieldLink RX0 29 "GooseCodex$Farm" "gateCount" "I", Cond.methodLink RX0 95 yX0_moveGuest, Cond.instanceMethod yX0_moveGuest, Cond.selects RX0 yX0_moveGuest yX0_moveGuest, Cond.code yX0_moveGuest cX0_moveGuest 5 none, Cond.fieldLink RX0 101 "GooseCodex$Guests" "retreat" "[I", Cond.fieldLink RX0 52 "GooseCodex$Guests" "rank" "[I"]
def wsX0_runBeat_r2 : List Cond := [Cond.fieldLink RX0 79 "GooseCodex$Guests" "nerve" "[I", Cond.fieldLink RX0 64 "GooseCodex$Guests" "corns" "[I", Cond.fieldLink RX0 123 "GooseCodex$Farm" "retreatCount" "I", Cond.methodLink RX0 55 yX0_gateHiss, Cond.instanceMethod yX0_gateHiss, Cond.selects RX0 yX0_gateHiss yX0_gateHiss, Cond.code yX0_gateHiss cX0_gateHiss 3 (some .int), Cond.methodLink RX0 43 yX0_rankLack, Cond.instanceMethod yX0_rankLack, Cond.selects RX0 yX0_rankLack yX0_rankLack, Cond.code yX0_rankLack cX0_rankLack 3 (some .int), Cond.fieldLink RX0 9 "GooseCodex$Farm" "ranks" "[I", Cond.methodLink RX0 37 Lib.Math.max.name, Cond.static Lib.Math.max.name, Cond.initialized "java/lang/Math", Cond.code Lib.Math.max.name Lib.Math.max.code 2 (some .int), Cond.methodLink RX0 33 yX0_hasGate, Cond.instanceMethod yX0_hasGate, Cond.selects RX0 yX0_hasGate yX0_hasGate, Cond.code yX0_hasGate cX0_hasGate 2 (some .boolean), Cond.methodLink RX0 46 yX1_hissThere, Cond.instanceMethod yX1_hissThere, Cond.selects RX1 yX1_hissThere yX1_hissThere, Cond.code yX1_hissThere cX1_hissThere 5 (some .int)]
def wsX0_runBeat_r3 : List Cond := [Cond.fieldLink RX1 15 "GooseCodex$Flock" "temper" "[I", Cond.methodLink RX1 28 yX1_isAwakeThere, Cond.instanceMethod yX1_isAwakeThere, Cond.selects RX1 yX1_isAwakeThere yX1_isAwakeThere, Cond.code yX1_isAwakeThere cX1_isAwakeThere 3 (some .boolean), Cond.fieldLink RX1 9 "GooseCodex$Flock" "gate" "[I", Cond.methodLink RX0 104 yX1_enrage, Cond.instanceMethod yX1_enrage, Cond.selects RX1 yX1_enrage yX1_enrage, Cond.code yX1_enrage cX1_enrage 3 none, Cond.methodLink RX1 38 Lib.Math.min.name, Cond.static Lib.Math.min.name, Cond.code Lib.Math.min.name Lib.Math.min.code 2 (some .int), Cond.methodLink RX0 107 yX1_fiercestAwake, Cond.instanceMethod yX1_fiercestAwake, Cond.selects RX1 yX1_fiercestAwake yX1_fiercestAwake, Cond.code yX1_fiercestAwake cX1_fiercestAwake 5 (some .int), Cond.methodLink RX0 110 yX1_hasGoose, Cond.instanceMethod yX1_hasGoose, Cond.selects RX1 yX1_hasGoose yX1_hasGoose, Cond.code yX1_hasGoose cX1_hasGoose 2 (some .boolean), Cond.methodLink RX0 113 yX0_payGoose, Cond.instanceMethod yX0_payGoose, Cond.selects RX0 yX0_payGoose yX0_payGoose]
def wsX0_runBeat_r4 : List Cond := [Cond.code yX0_payGoose cX0_payGoose 3 none, Cond.fieldLink RX0 71 "GooseCodex$Farm" "bribeCount" "I", Cond.methodLink RX0 67 yX1_feed, Cond.instanceMethod yX1_feed, Cond.selects RX1 yX1_feed yX1_feed, Cond.code yX1_feed cX1_feed 2 none, Cond.fieldLink RX1 21 "GooseCodex$Flock" "eaten" "[I", Cond.methodLink RX1 32 Lib.Math.max.name, Cond.static yX3_gradeOfHiss, Cond.initialized RX3, Cond.code yX3_gradeOfHiss cX3_gradeOfHiss 1 (some .int), Cond.methodLink RX0 120 yX2_fallBack, Cond.instanceMethod yX2_fallBack, Cond.selects RX2 yX2_fallBack yX2_fallBack, Cond.initialized RX2, Cond.code yX2_fallBack cX2_fallBack 3 none, Cond.fieldLink RX2 24 "GooseCodex$Guests" "retreat" "[I", Cond.fieldLink RX2 15 "GooseCodex$Guests" "nerve" "[I", Cond.methodLink RX2 31 Lib.Math.min.name, Cond.fieldLink RX2 21 "GooseCodex$Guests" "passed" "[I"]
def wsX0_runBeat : List Cond := .code yX0_runBeat cX0_runBeat 2 none :: ((wsX0_runBeat_r1 ++ (wsX0_runBeat_r2 ++ (wsX0_runBeat_r3 ++ wsX0_runBeat_r4))) ++ wsX00 ++ wsX20 ++ wsX10)
def wsX0_runBeats_r1 : List Cond := [Cond.methodLink RX0 89 yX0_runBeat, Cond.instanceMethod yX0_runBeat, Cond.selects RX0 yX0_runBeat yX0_runBeat, Cond.initialized RX0, Cond.code yX0_runBeat cX0_runBeat 2 none, Cond.fieldLink RX0 18 "GooseCodex$Farm" "flock" "LGooseCodex$Flock;", Cond.fieldLink RX0 25 "GooseCodex$Farm" "guests" "LGooseCodex$Guests;", Cond.fieldLink RX0 58 "GooseCodex$Guests" "count" "I", Cond.fieldLink RX0 98 "GooseCodex$Farm" "beat" "I", Cond.methodLink RX0 92 yX1_wakeByABeat, Cond.instanceMethod yX1_wakeByABeat, Cond.selects RX1 yX1_wakeByABeat yX1_wakeByABeat, Cond.initialized RX1, Cond.code yX1_wakeByABeat cX1_wakeByABeat 2 none, Cond.fieldLink RX1 24 "GooseCodex$Flock" "count" "I", Cond.fieldLink RX1 18 "GooseCodex$Flock" "calm" "[I", Cond.methodLink RX0 61 yX0_isBehindAll, Cond.instanceMethod yX0_isBehindAll, Cond.selects RX0 yX0_isBehindAll yX0_isBehindAll, Cond.code yX0_isBehindAll cX0_isBehindAll 2 (some .boolean), Cond.fieldLink RX0 49 "GooseCodex$Guests" "passed" "[I", Cond.fieldLink RX0 29 "GooseCodex$Farm" "gateCount" "I", Cond.methodLink RX0 95 yX0_moveGuest, Cond.instanceMethod yX0_moveGuest]
def wsX0_runBeats_r2 : List Cond := [Cond.selects RX0 yX0_moveGuest yX0_moveGuest, Cond.code yX0_moveGuest cX0_moveGuest 5 none, Cond.fieldLink RX0 101 "GooseCodex$Guests" "retreat" "[I", Cond.fieldLink RX0 52 "GooseCodex$Guests" "rank" "[I", Cond.fieldLink RX0 79 "GooseCodex$Guests" "nerve" "[I", Cond.fieldLink RX0 64 "GooseCodex$Guests" "corns" "[I", Cond.fieldLink RX0 123 "GooseCodex$Farm" "retreatCount" "I", Cond.methodLink RX0 55 yX0_gateHiss, Cond.instanceMethod yX0_gateHiss, Cond.selects RX0 yX0_gateHiss yX0_gateHiss, Cond.code yX0_gateHiss cX0_gateHiss 3 (some .int), Cond.methodLink RX0 43 yX0_rankLack, Cond.instanceMethod yX0_rankLack, Cond.selects RX0 yX0_rankLack yX0_rankLack, Cond.code yX0_rankLack cX0_rankLack 3 (some .int), Cond.fieldLink RX0 9 "GooseCodex$Farm" "ranks" "[I", Cond.methodLink RX0 37 Lib.Math.max.name, Cond.static Lib.Math.max.name, Cond.initialized "java/lang/Math", Cond.code Lib.Math.max.name Lib.Math.max.code 2 (some .int), Cond.methodLink RX0 33 yX0_hasGate, Cond.instanceMethod yX0_hasGate, Cond.selects RX0 yX0_hasGate yX0_hasGate, Cond.code yX0_hasGate cX0_hasGate 2 (some .boolean)]
def wsX0_runBeats_r3 : List Cond := [Cond.methodLink RX0 46 yX1_hissThere, Cond.instanceMethod yX1_hissThere, Cond.selects RX1 yX1_hissThere yX1_hissThere, Cond.code yX1_hissThere cX1_hissThere 5 (some .int), Cond.fieldLink RX1 15 "GooseCodex$Flock" "temper" "[I", Cond.methodLink RX1 28 yX1_isAwakeThere, Cond.instanceMethod yX1_isAwakeThere, Cond.selects RX1 yX1_isAwakeThere yX1_isAwakeThere, Cond.code yX1_isAwakeThere cX1_isAwakeThere 3 (some .boolean), Cond.fieldLink RX1 9 "GooseCodex$Flock" "gate" "[I", Cond.methodLink RX0 104 yX1_enrage, Cond.instanceMethod yX1_enrage, Cond.selects RX1 yX1_enrage yX1_enrage, Cond.code yX1_enrage cX1_enrage 3 none, Cond.methodLink RX1 38 Lib.Math.min.name, Cond.static Lib.Math.min.name, Cond.code Lib.Math.min.name Lib.Math.min.code 2 (some .int), Cond.methodLink RX0 107 yX1_fiercestAwake, Cond.instanceMethod yX1_fiercestAwake, Cond.selects RX1 yX1_fiercestAwake yX1_fiercestAwake, Cond.code yX1_fiercestAwake cX1_fiercestAwake 5 (some .int), Cond.methodLink RX0 110 yX1_hasGoose, Cond.instanceMethod yX1_hasGoose, Cond.selects RX1 yX1_hasGoose yX1_hasGoose]
def wsX0_runBeats_r4 : List Cond := [Cond.code yX1_hasGoose cX1_hasGoose 2 (some .boolean), Cond.methodLink RX0 113 yX0_payGoose, Cond.instanceMethod yX0_payGoose, Cond.selects RX0 yX0_payGoose yX0_payGoose, Cond.code yX0_payGoose cX0_payGoose 3 none, Cond.fieldLink RX0 71 "GooseCodex$Farm" "bribeCount" "I", Cond.methodLink RX0 67 yX1_feed, Cond.instanceMethod yX1_feed, Cond.selects RX1 yX1_feed yX1_feed, Cond.code yX1_feed cX1_feed 2 none, Cond.fieldLink RX1 21 "GooseCodex$Flock" "eaten" "[I", Cond.methodLink RX1 32 Lib.Math.max.name, Cond.static yX3_gradeOfHiss, Cond.initialized RX3, Cond.code yX3_gradeOfHiss cX3_gradeOfHiss 1 (some .int), Cond.methodLink RX0 120 yX2_fallBack, Cond.instanceMethod yX2_fallBack, Cond.selects RX2 yX2_fallBack yX2_fallBack, Cond.initialized RX2, Cond.code yX2_fallBack cX2_fallBack 3 none, Cond.fieldLink RX2 24 "GooseCodex$Guests" "retreat" "[I", Cond.fieldLink RX2 15 "GooseCodex$Guests" "nerve" "[I", Cond.methodLink RX2 31 Lib.Math.min.name, Cond.fieldLink RX2 21 "GooseCodex$Guests" "passed" "[I"]
def wsX0_runBeats : List Cond := .code yX0_runBeats cX0_runBeats 3 none :: ((wsX0_runBeats_r1 ++ (wsX0_runBeats_r2 ++ (wsX0_runBeats_r3 ++ wsX0_runBeats_r4))) ++ wsX00 ++ wsX20 ++ wsX10)
def wsX0_beatsToFarm_r1 : List Cond := [Cond.methodLink RX0 61 yX0_isBehindAll, Cond.instanceMethod yX0_isBehindAll, Cond.selects RX0 yX0_isBehindAll yX0_isBehindAll, Cond.initialized RX0, Cond.code yX0_isBehindAll cX0_isBehindAll 2 (some .boolean), Cond.fieldLink RX0 25 "GooseCodex$Farm" "guests" "LGooseCodex$Guests;", Cond.fieldLink RX0 49 "GooseCodex$Guests" "passed" "[I", Cond.fieldLink RX0 29 "GooseCodex$Farm" "gateCount" "I", Cond.methodLink RX0 89 yX0_runBeat, Cond.instanceMethod yX0_runBeat, Cond.selects RX0 yX0_runBeat yX0_runBeat, Cond.code yX0_runBeat cX0_runBeat 2 none, Cond.fieldLink RX0 18 "GooseCodex$Farm" "flock" "LGooseCodex$Flock;", Cond.fieldLink RX0 58 "GooseCodex$Guests" "count" "I", Cond.fieldLink RX0 98 "GooseCodex$Farm" "beat" "I", Cond.methodLink RX0 92 yX1_wakeByABeat, Cond.instanceMethod yX1_wakeByABeat, Cond.selects RX1 yX1_wakeByABeat yX1_wakeByABeat, Cond.initialized RX1, Cond.code yX1_wakeByABeat cX1_wakeByABeat 2 none, Cond.fieldLink RX1 24 "GooseCodex$Flock" "count" "I", Cond.fieldLink RX1 18 "GooseCodex$Flock" "calm" "[I", Cond.methodLink RX0 95 yX0_moveGuest, Cond.instanceMethod yX0_moveGuest]
def wsX0_beatsToFarm_r2 : List Cond := [Cond.selects RX0 yX0_moveGuest yX0_moveGuest, Cond.code yX0_moveGuest cX0_moveGuest 5 none, Cond.fieldLink RX0 101 "GooseCodex$Guests" "retreat" "[I", Cond.fieldLink RX0 52 "GooseCodex$Guests" "rank" "[I", Cond.fieldLink RX0 79 "GooseCodex$Guests" "nerve" "[I", Cond.fieldLink RX0 64 "GooseCodex$Guests" "corns" "[I", Cond.fieldLink RX0 123 "GooseCodex$Farm" "retreatCount" "I", Cond.methodLink RX0 55 yX0_gateHiss, Cond.instanceMethod yX0_gateHiss, Cond.selects RX0 yX0_gateHiss yX0_gateHiss, Cond.code yX0_gateHiss cX0_gateHiss 3 (some .int), Cond.methodLink RX0 43 yX0_rankLack, Cond.instanceMethod yX0_rankLack, Cond.selects RX0 yX0_rankLack yX0_rankLack, Cond.code yX0_rankLack cX0_rankLack 3 (some .int), Cond.fieldLink RX0 9 "GooseCodex$Farm" "ranks" "[I", Cond.methodLink RX0 37 Lib.Math.max.name, Cond.static Lib.Math.max.name, Cond.initialized "java/lang/Math", Cond.code Lib.Math.max.name Lib.Math.max.code 2 (some .int), Cond.methodLink RX0 33 yX0_hasGate, Cond.instanceMethod yX0_hasGate, Cond.selects RX0 yX0_hasGate yX0_hasGate, Cond.code yX0_hasGate cX0_hasGate 2 (some .boolean)]
def wsX0_beatsToFarm_r3 : List Cond := [Cond.methodLink RX0 46 yX1_hissThere, Cond.instanceMethod yX1_hissThere, Cond.selects RX1 yX1_hissThere yX1_hissThere, Cond.code yX1_hissThere cX1_hissThere 5 (some .int), Cond.fieldLink RX1 15 "GooseCodex$Flock" "temper" "[I", Cond.methodLink RX1 28 yX1_isAwakeThere, Cond.instanceMethod yX1_isAwakeThere, Cond.selects RX1 yX1_isAwakeThere yX1_isAwakeThere, Cond.code yX1_isAwakeThere cX1_isAwakeThere 3 (some .boolean), Cond.fieldLink RX1 9 "GooseCodex$Flock" "gate" "[I", Cond.methodLink RX0 104 yX1_enrage, Cond.instanceMethod yX1_enrage, Cond.selects RX1 yX1_enrage yX1_enrage, Cond.code yX1_enrage cX1_enrage 3 none, Cond.methodLink RX1 38 Lib.Math.min.name, Cond.static Lib.Math.min.name, Cond.code Lib.Math.min.name Lib.Math.min.code 2 (some .int), Cond.methodLink RX0 107 yX1_fiercestAwake, Cond.instanceMethod yX1_fiercestAwake, Cond.selects RX1 yX1_fiercestAwake yX1_fiercestAwake, Cond.code yX1_fiercestAwake cX1_fiercestAwake 5 (some .int), Cond.methodLink RX0 110 yX1_hasGoose, Cond.instanceMethod yX1_hasGoose, Cond.selects RX1 yX1_hasGoose yX1_hasGoose]
def wsX0_beatsToFarm_r4 : List Cond := [Cond.code yX1_hasGoose cX1_hasGoose 2 (some .boolean), Cond.methodLink RX0 113 yX0_payGoose, Cond.instanceMethod yX0_payGoose, Cond.selects RX0 yX0_payGoose yX0_payGoose, Cond.code yX0_payGoose cX0_payGoose 3 none, Cond.fieldLink RX0 71 "GooseCodex$Farm" "bribeCount" "I", Cond.methodLink RX0 67 yX1_feed, Cond.instanceMethod yX1_feed, Cond.selects RX1 yX1_feed yX1_feed, Cond.code yX1_feed cX1_feed 2 none, Cond.fieldLink RX1 21 "GooseCodex$Flock" "eaten" "[I", Cond.methodLink RX1 32 Lib.Math.max.name, Cond.static yX3_gradeOfHiss, Cond.initialized RX3, Cond.code yX3_gradeOfHiss cX3_gradeOfHiss 1 (some .int), Cond.methodLink RX0 120 yX2_fallBack, Cond.instanceMethod yX2_fallBack, Cond.selects RX2 yX2_fallBack yX2_fallBack, Cond.initialized RX2, Cond.code yX2_fallBack cX2_fallBack 3 none, Cond.fieldLink RX2 24 "GooseCodex$Guests" "retreat" "[I", Cond.fieldLink RX2 15 "GooseCodex$Guests" "nerve" "[I", Cond.methodLink RX2 31 Lib.Math.min.name, Cond.fieldLink RX2 21 "GooseCodex$Guests" "passed" "[I"]
def wsX0_beatsToFarm : List Cond := .code yX0_beatsToFarm cX0_beatsToFarm 4 (some .int) :: ((wsX0_beatsToFarm_r1 ++ (wsX0_beatsToFarm_r2 ++ (wsX0_beatsToFarm_r3 ++ wsX0_beatsToFarm_r4))) ++ wsX00 ++ wsX20 ++ wsX10)
def wsX1_copyFrom : List Cond := .code yX1_copyFrom cX1_copyFrom 2 none :: ([.fieldLink RX1 24 "GooseCodex$Flock" "count" "I", .fieldLink RX1 9 "GooseCodex$Flock" "gate" "[I", .methodLink RX1 41 arraycopyName, .native arraycopyName, .static arraycopyName, .initialized "java/lang/System", .fieldLink RX1 15 "GooseCodex$Flock" "temper" "[I", .fieldLink RX1 18 "GooseCodex$Flock" "calm" "[I", .fieldLink RX1 21 "GooseCodex$Flock" "eaten" "[I"] ++ wsX10)
def wsX2_copyFrom : List Cond := .code yX2_copyFrom cX2_copyFrom 2 none :: ([.fieldLink RX2 27 "GooseCodex$Guests" "count" "I", .fieldLink RX2 9 "GooseCodex$Guests" "rank" "[I", .methodLink RX2 37 arraycopyName, .native arraycopyName, .static arraycopyName, .initialized "java/lang/System", .fieldLink RX2 15 "GooseCodex$Guests" "nerve" "[I", .fieldLink RX2 18 "GooseCodex$Guests" "corns" "[I", .fieldLink RX2 21 "GooseCodex$Guests" "passed" "[I", .fieldLink RX2 24 "GooseCodex$Guests" "retreat" "[I"] ++ wsX20)
def wsX0_copyFrom_r1 : List Cond := [Cond.fieldLink RX0 29 "GooseCodex$Farm" "gateCount" "I", Cond.fieldLink RX0 9 "GooseCodex$Farm" "ranks" "[I", Cond.methodLink RX0 126 arraycopyName, Cond.native arraycopyName, Cond.static arraycopyName, Cond.initialized "java/lang/System", Cond.fieldLink RX0 18 "GooseCodex$Farm" "flock" "LGooseCodex$Flock;", Cond.fieldLink RX0 25 "GooseCodex$Farm" "guests" "LGooseCodex$Guests;", Cond.fieldLink RX0 98 "GooseCodex$Farm" "beat" "I", Cond.fieldLink RX0 71 "GooseCodex$Farm" "bribeCount" "I", Cond.fieldLink RX0 123 "GooseCodex$Farm" "retreatCount" "I", Cond.methodLink RX0 132 yX1_copyFrom, Cond.instanceMethod yX1_copyFrom, Cond.selects RX1 yX1_copyFrom yX1_copyFrom, Cond.initialized RX1, Cond.code yX1_copyFrom cX1_copyFrom 2 none, Cond.fieldLink RX1 24 "GooseCodex$Flock" "count" "I", Cond.fieldLink RX1 9 "GooseCodex$Flock" "gate" "[I", Cond.methodLink RX1 41 arraycopyName, Cond.fieldLink RX1 15 "GooseCodex$Flock" "temper" "[I", Cond.fieldLink RX1 18 "GooseCodex$Flock" "calm" "[I", Cond.fieldLink RX1 21 "GooseCodex$Flock" "eaten" "[I", Cond.methodLink RX0 136 yX2_copyFrom, Cond.instanceMethod yX2_copyFrom]
def wsX0_copyFrom_r2 : List Cond := [Cond.selects RX2 yX2_copyFrom yX2_copyFrom, Cond.initialized RX2, Cond.code yX2_copyFrom cX2_copyFrom 2 none, Cond.fieldLink RX2 27 "GooseCodex$Guests" "count" "I", Cond.fieldLink RX2 9 "GooseCodex$Guests" "rank" "[I", Cond.methodLink RX2 37 arraycopyName, Cond.fieldLink RX2 15 "GooseCodex$Guests" "nerve" "[I", Cond.fieldLink RX2 18 "GooseCodex$Guests" "corns" "[I", Cond.fieldLink RX2 21 "GooseCodex$Guests" "passed" "[I", Cond.fieldLink RX2 24 "GooseCodex$Guests" "retreat" "[I"]
def wsX0_copyFrom : List Cond := .code yX0_copyFrom cX0_copyFrom 2 none :: ((wsX0_copyFrom_r1 ++ wsX0_copyFrom_r2) ++ wsX00 ++ wsX10 ++ wsX20)
def wsX1_putGoose : List Cond := .code yX1_putGoose cX1_putGoose 4 (some .int) :: ([.fieldLink RX1 24 "GooseCodex$Flock" "count" "I", .fieldLink RX1 9 "GooseCodex$Flock" "gate" "[I", .fieldLink RX1 15 "GooseCodex$Flock" "temper" "[I"] ++ wsX10)
def wsX1_countAwake : List Cond := .code yX1_countAwake cX1_countAwake 4 (some .int) :: ([.fieldLink RX1 24 "GooseCodex$Flock" "count" "I", .methodLink RX1 28 yX1_isAwakeThere, .instanceMethod yX1_isAwakeThere, .selects RX1 yX1_isAwakeThere yX1_isAwakeThere, .initialized RX1, .code yX1_isAwakeThere cX1_isAwakeThere 3 (some .boolean), .fieldLink RX1 9 "GooseCodex$Flock" "gate" "[I", .fieldLink RX1 18 "GooseCodex$Flock" "calm" "[I"] ++ wsX10)
def wsX1_sumOfTempers : List Cond := .code yX1_sumOfTempers cX1_sumOfTempers 3 (some .int) :: ([.fieldLink RX1 24 "GooseCodex$Flock" "count" "I", .fieldLink RX1 15 "GooseCodex$Flock" "temper" "[I"] ++ wsX10)
def wsX2_hasGuest : List Cond := .code yX2_hasGuest cX2_hasGuest 2 (some .boolean) :: ([.fieldLink RX2 27 "GooseCodex$Guests" "count" "I"] ++ wsX20)
def wsX2_putGuest : List Cond := .code yX2_putGuest cX2_putGuest 5 (some .int) :: ([.fieldLink RX2 27 "GooseCodex$Guests" "count" "I", .fieldLink RX2 9 "GooseCodex$Guests" "rank" "[I", .fieldLink RX2 15 "GooseCodex$Guests" "nerve" "[I", .fieldLink RX2 18 "GooseCodex$Guests" "corns" "[I"] ++ wsX20)
def wsX3_init_r1 : List Cond := [Cond.methodLink RX3 1 objectInit, Cond.instanceMethod objectInit, Cond.code objectInit ⟨#[0xb1]⟩ 1 none, Cond.classLink RX3 7 RX0, Cond.instantiable RX0 7, Cond.initialized RX0, Cond.fieldLink RX3 10 "GooseCodex" "now" "LGooseCodex$Farm;", Cond.fieldLink RX3 16 "GooseCodex" "trial" "LGooseCodex$Farm;", Cond.instanceMethod yX0_init, Cond.code yX0_init cX0_init 1 none, Cond.methodLink RX0 3 objectInit, Cond.arrayClass .int, Cond.fieldLink RX0 9 "GooseCodex$Farm" "ranks" "[I", Cond.classLink RX0 15 RX1, Cond.instantiable RX1 5, Cond.initialized RX1, Cond.fieldLink RX0 18 "GooseCodex$Farm" "flock" "LGooseCodex$Flock;", Cond.classLink RX0 22 RX2, Cond.instantiable RX2 6, Cond.initialized RX2, Cond.fieldLink RX0 25 "GooseCodex$Farm" "guests" "LGooseCodex$Guests;", Cond.instanceMethod yX1_init, Cond.code yX1_init cX1_init 1 none, Cond.methodLink RX1 3 objectInit]
def wsX3_init_r2 : List Cond := [Cond.fieldLink RX1 9 "GooseCodex$Flock" "gate" "[I", Cond.fieldLink RX1 15 "GooseCodex$Flock" "temper" "[I", Cond.fieldLink RX1 18 "GooseCodex$Flock" "calm" "[I", Cond.fieldLink RX1 21 "GooseCodex$Flock" "eaten" "[I", Cond.instanceMethod yX2_init, Cond.code yX2_init cX2_init 1 none, Cond.methodLink RX2 3 objectInit, Cond.fieldLink RX2 9 "GooseCodex$Guests" "rank" "[I", Cond.fieldLink RX2 15 "GooseCodex$Guests" "nerve" "[I", Cond.fieldLink RX2 18 "GooseCodex$Guests" "corns" "[I", Cond.fieldLink RX2 21 "GooseCodex$Guests" "passed" "[I", Cond.fieldLink RX2 24 "GooseCodex$Guests" "retreat" "[I"]
def wsX3_init : List Cond := .code yX3_init cX3_init 1 none :: ((wsX3_init_r1 ++ wsX3_init_r2) ++ wsX00 ++ wsX30 ++ wsX10 ++ wsX20)
def wsX3_isWithin : List Cond := .code yX3_isWithin cX3_isWithin 3 (some .boolean) :: ([])
def wsX3_isRank : List Cond := .code yX3_isRank cX3_isRank 1 (some .boolean) :: ([.methodLink RX3 53 yX3_isWithin, .static yX3_isWithin, .initialized RX3, .code yX3_isWithin cX3_isWithin 3 (some .boolean)])
def wsX3_demandArgument : List Cond := .code yX3_demandArgument cX3_demandArgument 1 none :: ([.classLink RX3 269 "java/lang/IllegalArgumentException", .initialized "java/lang/IllegalArgumentException"] ++ (vx_atS RX3 273 "java/lang/IllegalArgumentException" ["java/lang/RuntimeException", "java/lang/Exception"]).filter goodWord)
def wsX3_demandState : List Cond := .code yX3_demandState cX3_demandState 1 none :: ([.classLink RX3 274 "java/lang/IllegalStateException", .initialized "java/lang/IllegalStateException"] ++ (vx_atS RX3 278 "java/lang/IllegalStateException" ["java/lang/RuntimeException", "java/lang/Exception"]).filter goodWord)
def wsX3_addGate_r1 : List Cond := [Cond.fieldLink RX3 10 "GooseCodex" "now" "LGooseCodex$Farm;", Cond.fieldLink RX3 27 "GooseCodex$Farm" "gateCount" "I", Cond.fieldLink RX3 31 "GooseCodex$Farm" "guests" "LGooseCodex$Guests;", Cond.fieldLink RX3 35 "GooseCodex$Guests" "count" "I", Cond.methodLink RX3 19 yX3_isRank, Cond.static yX3_isRank, Cond.initialized RX3, Cond.code yX3_isRank cX3_isRank 1 (some .boolean), Cond.methodLink RX3 53 yX3_isWithin, Cond.static yX3_isWithin, Cond.code yX3_isWithin cX3_isWithin 3 (some .boolean), Cond.methodLink RX3 23 yX3_demandArgument, Cond.static yX3_demandArgument, Cond.code yX3_demandArgument cX3_demandArgument 1 none, Cond.classLink RX3 269 "java/lang/IllegalArgumentException", Cond.initialized "java/lang/IllegalArgumentException", Cond.methodLink RX3 40 yX3_demandState, Cond.static yX3_demandState, Cond.code yX3_demandState cX3_demandState 1 none, Cond.classLink RX3 274 "java/lang/IllegalStateException", Cond.initialized "java/lang/IllegalStateException", Cond.methodLink RX3 43 yX0_putGate, Cond.instanceMethod yX0_putGate, Cond.selects RX0 yX0_putGate yX0_putGate]
def wsX3_addGate_r2 : List Cond := [Cond.initialized RX0, Cond.code yX0_putGate cX0_putGate 3 (some .int), Cond.fieldLink RX0 29 "GooseCodex$Farm" "gateCount" "I", Cond.fieldLink RX0 9 "GooseCodex$Farm" "ranks" "[I"]
def wsX3_addGate : List Cond := .code yX3_addGate cX3_addGate 2 (some .int) :: ((wsX3_addGate_r1 ++ wsX3_addGate_r2) ++ wsX30 ++ wsX00 ++ wsX20 ++ (vx_atS RX3 273 "java/lang/IllegalArgumentException" ["java/lang/RuntimeException", "java/lang/Exception"]).filter goodWord ++ (vx_atS RX3 278 "java/lang/IllegalStateException" ["java/lang/RuntimeException", "java/lang/Exception"]).filter goodWord)
def wsX3_demandIndex : List Cond := .code yX3_demandIndex cX3_demandIndex 1 none :: ([.classLink RX3 262 "java/lang/IndexOutOfBoundsException", .initialized "java/lang/IndexOutOfBoundsException"] ++ (vx_atS RX3 266 "java/lang/IndexOutOfBoundsException" ["java/lang/RuntimeException", "java/lang/Exception"]).filter goodWord)
def wsX3_addGoose_r1 : List Cond := [Cond.fieldLink RX3 10 "GooseCodex" "now" "LGooseCodex$Farm;", Cond.fieldLink RX3 57 "GooseCodex$Farm" "flock" "LGooseCodex$Flock;", Cond.fieldLink RX3 61 "GooseCodex$Flock" "count" "I", Cond.methodLink RX3 47 yX0_hasGate, Cond.instanceMethod yX0_hasGate, Cond.selects RX0 yX0_hasGate yX0_hasGate, Cond.initialized RX0, Cond.code yX0_hasGate cX0_hasGate 2 (some .boolean), Cond.fieldLink RX0 29 "GooseCodex$Farm" "gateCount" "I", Cond.methodLink RX3 50 yX3_demandIndex, Cond.static yX3_demandIndex, Cond.initialized RX3, Cond.code yX3_demandIndex cX3_demandIndex 1 none, Cond.classLink RX3 262 "java/lang/IndexOutOfBoundsException", Cond.initialized "java/lang/IndexOutOfBoundsException", Cond.methodLink RX3 53 yX3_isWithin, Cond.static yX3_isWithin, Cond.code yX3_isWithin cX3_isWithin 3 (some .boolean), Cond.methodLink RX3 23 yX3_demandArgument, Cond.static yX3_demandArgument, Cond.code yX3_demandArgument cX3_demandArgument 1 none, Cond.classLink RX3 269 "java/lang/IllegalArgumentException", Cond.initialized "java/lang/IllegalArgumentException", Cond.methodLink RX3 40 yX3_demandState]
def wsX3_addGoose_r2 : List Cond := [Cond.static yX3_demandState, Cond.code yX3_demandState cX3_demandState 1 none, Cond.classLink RX3 274 "java/lang/IllegalStateException", Cond.initialized "java/lang/IllegalStateException", Cond.methodLink RX3 64 yX1_putGoose, Cond.instanceMethod yX1_putGoose, Cond.selects RX1 yX1_putGoose yX1_putGoose, Cond.initialized RX1, Cond.code yX1_putGoose cX1_putGoose 4 (some .int), Cond.fieldLink RX1 24 "GooseCodex$Flock" "count" "I", Cond.fieldLink RX1 9 "GooseCodex$Flock" "gate" "[I", Cond.fieldLink RX1 15 "GooseCodex$Flock" "temper" "[I"]
def wsX3_addGoose : List Cond := .code yX3_addGoose cX3_addGoose 3 (some .int) :: ((wsX3_addGoose_r1 ++ wsX3_addGoose_r2) ++ wsX30 ++ wsX00 ++ wsX10 ++ (vx_atS RX3 266 "java/lang/IndexOutOfBoundsException" ["java/lang/RuntimeException", "java/lang/Exception"]).filter goodWord ++ (vx_atS RX3 273 "java/lang/IllegalArgumentException" ["java/lang/RuntimeException", "java/lang/Exception"]).filter goodWord ++ (vx_atS RX3 278 "java/lang/IllegalStateException" ["java/lang/RuntimeException", "java/lang/Exception"]).filter goodWord)
def wsX3_isNerve : List Cond := .code yX3_isNerve cX3_isNerve 1 (some .boolean) :: ([.methodLink RX3 53 yX3_isWithin, .static yX3_isWithin, .initialized RX3, .code yX3_isWithin cX3_isWithin 3 (some .boolean)])
def wsX3_arrive_r1 : List Cond := [Cond.fieldLink RX3 10 "GooseCodex" "now" "LGooseCodex$Farm;", Cond.fieldLink RX3 27 "GooseCodex$Farm" "gateCount" "I", Cond.fieldLink RX3 31 "GooseCodex$Farm" "guests" "LGooseCodex$Guests;", Cond.fieldLink RX3 35 "GooseCodex$Guests" "count" "I", Cond.methodLink RX3 19 yX3_isRank, Cond.static yX3_isRank, Cond.initialized RX3, Cond.code yX3_isRank cX3_isRank 1 (some .boolean), Cond.methodLink RX3 53 yX3_isWithin, Cond.static yX3_isWithin, Cond.code yX3_isWithin cX3_isWithin 3 (some .boolean), Cond.methodLink RX3 68 yX3_isNerve, Cond.static yX3_isNerve, Cond.code yX3_isNerve cX3_isNerve 1 (some .boolean), Cond.methodLink RX3 23 yX3_demandArgument, Cond.static yX3_demandArgument, Cond.code yX3_demandArgument cX3_demandArgument 1 none, Cond.classLink RX3 269 "java/lang/IllegalArgumentException", Cond.initialized "java/lang/IllegalArgumentException", Cond.methodLink RX3 40 yX3_demandState, Cond.static yX3_demandState, Cond.code yX3_demandState cX3_demandState 1 none, Cond.classLink RX3 274 "java/lang/IllegalStateException", Cond.initialized "java/lang/IllegalStateException"]
def wsX3_arrive_r2 : List Cond := [Cond.methodLink RX3 71 yX2_putGuest, Cond.instanceMethod yX2_putGuest, Cond.selects RX2 yX2_putGuest yX2_putGuest, Cond.initialized RX2, Cond.code yX2_putGuest cX2_putGuest 5 (some .int), Cond.fieldLink RX2 27 "GooseCodex$Guests" "count" "I", Cond.fieldLink RX2 9 "GooseCodex$Guests" "rank" "[I", Cond.fieldLink RX2 15 "GooseCodex$Guests" "nerve" "[I", Cond.fieldLink RX2 18 "GooseCodex$Guests" "corns" "[I"]
def wsX3_arrive : List Cond := .code yX3_arrive cX3_arrive 4 (some .int) :: ((wsX3_arrive_r1 ++ wsX3_arrive_r2) ++ wsX30 ++ wsX00 ++ wsX20 ++ (vx_atS RX3 273 "java/lang/IllegalArgumentException" ["java/lang/RuntimeException", "java/lang/Exception"]).filter goodWord ++ (vx_atS RX3 278 "java/lang/IllegalStateException" ["java/lang/RuntimeException", "java/lang/Exception"]).filter goodWord)
def wsX3_setRank_r1 : List Cond := [Cond.fieldLink RX3 10 "GooseCodex" "now" "LGooseCodex$Farm;", Cond.fieldLink RX3 75 "GooseCodex$Farm" "ranks" "[I", Cond.methodLink RX3 47 yX0_hasGate, Cond.instanceMethod yX0_hasGate, Cond.selects RX0 yX0_hasGate yX0_hasGate, Cond.initialized RX0, Cond.code yX0_hasGate cX0_hasGate 2 (some .boolean), Cond.fieldLink RX0 29 "GooseCodex$Farm" "gateCount" "I", Cond.methodLink RX3 50 yX3_demandIndex, Cond.static yX3_demandIndex, Cond.initialized RX3, Cond.code yX3_demandIndex cX3_demandIndex 1 none, Cond.classLink RX3 262 "java/lang/IndexOutOfBoundsException", Cond.initialized "java/lang/IndexOutOfBoundsException", Cond.methodLink RX3 19 yX3_isRank, Cond.static yX3_isRank, Cond.code yX3_isRank cX3_isRank 1 (some .boolean), Cond.methodLink RX3 53 yX3_isWithin, Cond.static yX3_isWithin, Cond.code yX3_isWithin cX3_isWithin 3 (some .boolean), Cond.methodLink RX3 23 yX3_demandArgument, Cond.static yX3_demandArgument, Cond.code yX3_demandArgument cX3_demandArgument 1 none, Cond.classLink RX3 269 "java/lang/IllegalArgumentException"]
def wsX3_setRank_r2 : List Cond := [Cond.initialized "java/lang/IllegalArgumentException"]
def wsX3_setRank : List Cond := .code yX3_setRank cX3_setRank 4 (some .int) :: ((wsX3_setRank_r1 ++ wsX3_setRank_r2) ++ wsX30 ++ wsX00 ++ (vx_atS RX3 266 "java/lang/IndexOutOfBoundsException" ["java/lang/RuntimeException", "java/lang/Exception"]).filter goodWord ++ (vx_atS RX3 273 "java/lang/IllegalArgumentException" ["java/lang/RuntimeException", "java/lang/Exception"]).filter goodWord)
def wsX3_lead : List Cond := .code yX3_lead cX3_lead 4 (some .int) :: ([.fieldLink RX3 10 "GooseCodex" "now" "LGooseCodex$Farm;", .fieldLink RX3 57 "GooseCodex$Farm" "flock" "LGooseCodex$Flock;", .fieldLink RX3 82 "GooseCodex$Flock" "gate" "[I", .methodLink RX3 79 yX1_hasGoose, .instanceMethod yX1_hasGoose, .selects RX1 yX1_hasGoose yX1_hasGoose, .initialized RX1, .code yX1_hasGoose cX1_hasGoose 2 (some .boolean), .fieldLink RX1 24 "GooseCodex$Flock" "count" "I", .methodLink RX3 47 yX0_hasGate, .instanceMethod yX0_hasGate, .selects RX0 yX0_hasGate yX0_hasGate, .initialized RX0, .code yX0_hasGate cX0_hasGate 2 (some .boolean), .fieldLink RX0 29 "GooseCodex$Farm" "gateCount" "I", .methodLink RX3 50 yX3_demandIndex, .static yX3_demandIndex, .initialized RX3, .code yX3_demandIndex cX3_demandIndex 1 none, .classLink RX3 262 "java/lang/IndexOutOfBoundsException", .initialized "java/lang/IndexOutOfBoundsException"] ++ wsX30 ++ wsX00 ++ wsX10 ++ (vx_atS RX3 266 "java/lang/IndexOutOfBoundsException" ["java/lang/RuntimeException", "java/lang/Exception"]).filter goodWord)
def wsX3_demandVisitor : List Cond := .code yX3_demandVisitor cX3_demandVisitor 2 none :: ([.fieldLink RX3 10 "GooseCodex" "now" "LGooseCodex$Farm;", .fieldLink RX3 31 "GooseCodex$Farm" "guests" "LGooseCodex$Guests;", .methodLink RX3 259 yX2_hasGuest, .instanceMethod yX2_hasGuest, .selects RX2 yX2_hasGuest yX2_hasGuest, .initialized RX2, .code yX2_hasGuest cX2_hasGuest 2 (some .boolean), .fieldLink RX2 27 "GooseCodex$Guests" "count" "I", .methodLink RX3 50 yX3_demandIndex, .static yX3_demandIndex, .initialized RX3, .code yX3_demandIndex cX3_demandIndex 1 none, .classLink RX3 262 "java/lang/IndexOutOfBoundsException", .initialized "java/lang/IndexOutOfBoundsException"] ++ wsX30 ++ wsX00 ++ wsX20 ++ (vx_atS RX3 266 "java/lang/IndexOutOfBoundsException" ["java/lang/RuntimeException", "java/lang/Exception"]).filter goodWord)
def wsX3_giveCorns_r1 : List Cond := [Cond.fieldLink RX3 10 "GooseCodex" "now" "LGooseCodex$Farm;", Cond.fieldLink RX3 31 "GooseCodex$Farm" "guests" "LGooseCodex$Guests;", Cond.fieldLink RX3 89 "GooseCodex$Guests" "corns" "[I", Cond.methodLink RX3 92 Lib.Math.min.name, Cond.static Lib.Math.min.name, Cond.initialized "java/lang/Math", Cond.code Lib.Math.min.name Lib.Math.min.code 2 (some .int), Cond.methodLink RX3 85 yX3_demandVisitor, Cond.instanceMethod yX3_demandVisitor, Cond.selects RX3 yX3_demandVisitor yX3_demandVisitor, Cond.initialized RX3, Cond.code yX3_demandVisitor cX3_demandVisitor 2 none, Cond.methodLink RX3 259 yX2_hasGuest, Cond.instanceMethod yX2_hasGuest, Cond.selects RX2 yX2_hasGuest yX2_hasGuest, Cond.initialized RX2, Cond.code yX2_hasGuest cX2_hasGuest 2 (some .boolean), Cond.fieldLink RX2 27 "GooseCodex$Guests" "count" "I", Cond.methodLink RX3 50 yX3_demandIndex, Cond.static yX3_demandIndex, Cond.code yX3_demandIndex cX3_demandIndex 1 none, Cond.classLink RX3 262 "java/lang/IndexOutOfBoundsException", Cond.initialized "java/lang/IndexOutOfBoundsException", Cond.methodLink RX3 53 yX3_isWithin]
def wsX3_giveCorns_r2 : List Cond := [Cond.static yX3_isWithin, Cond.code yX3_isWithin cX3_isWithin 3 (some .boolean), Cond.methodLink RX3 23 yX3_demandArgument, Cond.static yX3_demandArgument, Cond.code yX3_demandArgument cX3_demandArgument 1 none, Cond.classLink RX3 269 "java/lang/IllegalArgumentException", Cond.initialized "java/lang/IllegalArgumentException"]
def wsX3_giveCorns : List Cond := .code yX3_giveCorns cX3_giveCorns 4 (some .int) :: ((wsX3_giveCorns_r1 ++ wsX3_giveCorns_r2) ++ wsX30 ++ wsX00 ++ wsX20 ++ (vx_atS RX3 266 "java/lang/IndexOutOfBoundsException" ["java/lang/RuntimeException", "java/lang/Exception"]).filter goodWord ++ (vx_atS RX3 273 "java/lang/IllegalArgumentException" ["java/lang/RuntimeException", "java/lang/Exception"]).filter goodWord)
def wsX3_demandGoose : List Cond := .code yX3_demandGoose cX3_demandGoose 2 none :: ([.fieldLink RX3 10 "GooseCodex" "now" "LGooseCodex$Farm;", .fieldLink RX3 57 "GooseCodex$Farm" "flock" "LGooseCodex$Flock;", .methodLink RX3 79 yX1_hasGoose, .instanceMethod yX1_hasGoose, .selects RX1 yX1_hasGoose yX1_hasGoose, .initialized RX1, .code yX1_hasGoose cX1_hasGoose 2 (some .boolean), .fieldLink RX1 24 "GooseCodex$Flock" "count" "I", .methodLink RX3 50 yX3_demandIndex, .static yX3_demandIndex, .initialized RX3, .code yX3_demandIndex cX3_demandIndex 1 none, .classLink RX3 262 "java/lang/IndexOutOfBoundsException", .initialized "java/lang/IndexOutOfBoundsException"] ++ wsX30 ++ wsX00 ++ wsX10 ++ (vx_atS RX3 266 "java/lang/IndexOutOfBoundsException" ["java/lang/RuntimeException", "java/lang/Exception"]).filter goodWord)
def wsX3_bribe_r1 : List Cond := [Cond.fieldLink RX3 10 "GooseCodex" "now" "LGooseCodex$Farm;", Cond.fieldLink RX3 31 "GooseCodex$Farm" "guests" "LGooseCodex$Guests;", Cond.fieldLink RX3 89 "GooseCodex$Guests" "corns" "[I", Cond.fieldLink RX3 57 "GooseCodex$Farm" "flock" "LGooseCodex$Flock;", Cond.fieldLink RX3 82 "GooseCodex$Flock" "gate" "[I", Cond.fieldLink RX3 103 "GooseCodex$Guests" "passed" "[I", Cond.fieldLink RX3 110 "GooseCodex$Flock" "temper" "[I", Cond.methodLink RX3 85 yX3_demandVisitor, Cond.instanceMethod yX3_demandVisitor, Cond.selects RX3 yX3_demandVisitor yX3_demandVisitor, Cond.initialized RX3, Cond.code yX3_demandVisitor cX3_demandVisitor 2 none, Cond.methodLink RX3 259 yX2_hasGuest, Cond.instanceMethod yX2_hasGuest, Cond.selects RX2 yX2_hasGuest yX2_hasGuest, Cond.initialized RX2, Cond.code yX2_hasGuest cX2_hasGuest 2 (some .boolean), Cond.fieldLink RX2 27 "GooseCodex$Guests" "count" "I", Cond.methodLink RX3 50 yX3_demandIndex, Cond.static yX3_demandIndex, Cond.code yX3_demandIndex cX3_demandIndex 1 none, Cond.classLink RX3 262 "java/lang/IndexOutOfBoundsException", Cond.initialized "java/lang/IndexOutOfBoundsException", Cond.methodLink RX3 97 yX3_demandGoose]
def wsX3_bribe_r2 : List Cond := [Cond.instanceMethod yX3_demandGoose, Cond.selects RX3 yX3_demandGoose yX3_demandGoose, Cond.code yX3_demandGoose cX3_demandGoose 2 none, Cond.methodLink RX3 79 yX1_hasGoose, Cond.instanceMethod yX1_hasGoose, Cond.selects RX1 yX1_hasGoose yX1_hasGoose, Cond.initialized RX1, Cond.code yX1_hasGoose cX1_hasGoose 2 (some .boolean), Cond.fieldLink RX1 24 "GooseCodex$Flock" "count" "I", Cond.methodLink RX3 100 yX0_isBehindAll, Cond.instanceMethod yX0_isBehindAll, Cond.selects RX0 yX0_isBehindAll yX0_isBehindAll, Cond.initialized RX0, Cond.code yX0_isBehindAll cX0_isBehindAll 2 (some .boolean), Cond.fieldLink RX0 25 "GooseCodex$Farm" "guests" "LGooseCodex$Guests;", Cond.fieldLink RX0 49 "GooseCodex$Guests" "passed" "[I", Cond.fieldLink RX0 29 "GooseCodex$Farm" "gateCount" "I", Cond.methodLink RX3 40 yX3_demandState, Cond.static yX3_demandState, Cond.code yX3_demandState cX3_demandState 1 none, Cond.classLink RX3 274 "java/lang/IllegalStateException", Cond.initialized "java/lang/IllegalStateException", Cond.methodLink RX3 106 yX0_payGoose, Cond.instanceMethod yX0_payGoose]
def wsX3_bribe_r3 : List Cond := [Cond.selects RX0 yX0_payGoose yX0_payGoose, Cond.code yX0_payGoose cX0_payGoose 3 none, Cond.fieldLink RX0 64 "GooseCodex$Guests" "corns" "[I", Cond.fieldLink RX0 18 "GooseCodex$Farm" "flock" "LGooseCodex$Flock;", Cond.fieldLink RX0 71 "GooseCodex$Farm" "bribeCount" "I", Cond.methodLink RX0 67 yX1_feed, Cond.instanceMethod yX1_feed, Cond.selects RX1 yX1_feed yX1_feed, Cond.code yX1_feed cX1_feed 2 none, Cond.fieldLink RX1 21 "GooseCodex$Flock" "eaten" "[I", Cond.fieldLink RX1 18 "GooseCodex$Flock" "calm" "[I", Cond.fieldLink RX1 15 "GooseCodex$Flock" "temper" "[I", Cond.methodLink RX1 32 Lib.Math.max.name, Cond.static Lib.Math.max.name, Cond.initialized "java/lang/Math", Cond.code Lib.Math.max.name Lib.Math.max.code 2 (some .int)]
def wsX3_bribe : List Cond := .code yX3_bribe cX3_bribe 3 (some .int) :: ((wsX3_bribe_r1 ++ (wsX3_bribe_r2 ++ wsX3_bribe_r3)) ++ wsX30 ++ wsX00 ++ wsX20 ++ wsX10 ++ (vx_atS RX3 266 "java/lang/IndexOutOfBoundsException" ["java/lang/RuntimeException", "java/lang/Exception"]).filter goodWord ++ (vx_atS RX3 278 "java/lang/IllegalStateException" ["java/lang/RuntimeException", "java/lang/Exception"]).filter goodWord)
def wsX3_isBeats : List Cond := .code yX3_isBeats cX3_isBeats 1 (some .boolean) :: ([.methodLink RX3 53 yX3_isWithin, .static yX3_isWithin, .initialized RX3, .code yX3_isWithin cX3_isWithin 3 (some .boolean)])
def wsX3_passBeats_r1 : List Cond := [Cond.fieldLink RX3 10 "GooseCodex" "now" "LGooseCodex$Farm;", Cond.methodLink RX3 113 yX3_isBeats, Cond.static yX3_isBeats, Cond.initialized RX3, Cond.code yX3_isBeats cX3_isBeats 1 (some .boolean), Cond.methodLink RX3 53 yX3_isWithin, Cond.static yX3_isWithin, Cond.code yX3_isWithin cX3_isWithin 3 (some .boolean), Cond.methodLink RX3 23 yX3_demandArgument, Cond.static yX3_demandArgument, Cond.code yX3_demandArgument cX3_demandArgument 1 none, Cond.classLink RX3 269 "java/lang/IllegalArgumentException", Cond.initialized "java/lang/IllegalArgumentException", Cond.methodLink RX3 116 yX0_countInside, Cond.instanceMethod yX0_countInside, Cond.selects RX0 yX0_countInside yX0_countInside, Cond.initialized RX0, Cond.code yX0_countInside cX0_countInside 3 (some .int), Cond.fieldLink RX0 25 "GooseCodex$Farm" "guests" "LGooseCodex$Guests;", Cond.fieldLink RX0 58 "GooseCodex$Guests" "count" "I", Cond.methodLink RX0 61 yX0_isBehindAll, Cond.instanceMethod yX0_isBehindAll, Cond.selects RX0 yX0_isBehindAll yX0_isBehindAll, Cond.code yX0_isBehindAll cX0_isBehindAll 2 (some .boolean)]
def wsX3_passBeats_r2 : List Cond := [Cond.fieldLink RX0 49 "GooseCodex$Guests" "passed" "[I", Cond.fieldLink RX0 29 "GooseCodex$Farm" "gateCount" "I", Cond.methodLink RX3 120 yX0_runBeats, Cond.instanceMethod yX0_runBeats, Cond.selects RX0 yX0_runBeats yX0_runBeats, Cond.code yX0_runBeats cX0_runBeats 3 none, Cond.methodLink RX0 89 yX0_runBeat, Cond.instanceMethod yX0_runBeat, Cond.selects RX0 yX0_runBeat yX0_runBeat, Cond.code yX0_runBeat cX0_runBeat 2 none, Cond.fieldLink RX0 18 "GooseCodex$Farm" "flock" "LGooseCodex$Flock;", Cond.fieldLink RX0 98 "GooseCodex$Farm" "beat" "I", Cond.methodLink RX0 92 yX1_wakeByABeat, Cond.instanceMethod yX1_wakeByABeat, Cond.selects RX1 yX1_wakeByABeat yX1_wakeByABeat, Cond.initialized RX1, Cond.code yX1_wakeByABeat cX1_wakeByABeat 2 none, Cond.fieldLink RX1 24 "GooseCodex$Flock" "count" "I", Cond.fieldLink RX1 18 "GooseCodex$Flock" "calm" "[I", Cond.methodLink RX0 95 yX0_moveGuest, Cond.instanceMethod yX0_moveGuest, Cond.selects RX0 yX0_moveGuest yX0_moveGuest, Cond.code yX0_moveGuest cX0_moveGuest 5 none, Cond.fieldLink RX0 101 "GooseCodex$Guests" "retreat" "[I"]
def wsX3_passBeats_r3 : List Cond := [Cond.fieldLink RX0 52 "GooseCodex$Guests" "rank" "[I", Cond.fieldLink RX0 79 "GooseCodex$Guests" "nerve" "[I", Cond.fieldLink RX0 64 "GooseCodex$Guests" "corns" "[I", Cond.fieldLink RX0 123 "GooseCodex$Farm" "retreatCount" "I", Cond.methodLink RX0 55 yX0_gateHiss, Cond.instanceMethod yX0_gateHiss, Cond.selects RX0 yX0_gateHiss yX0_gateHiss, Cond.code yX0_gateHiss cX0_gateHiss 3 (some .int), Cond.methodLink RX0 43 yX0_rankLack, Cond.instanceMethod yX0_rankLack, Cond.selects RX0 yX0_rankLack yX0_rankLack, Cond.code yX0_rankLack cX0_rankLack 3 (some .int), Cond.fieldLink RX0 9 "GooseCodex$Farm" "ranks" "[I", Cond.methodLink RX0 37 Lib.Math.max.name, Cond.static Lib.Math.max.name, Cond.initialized "java/lang/Math", Cond.code Lib.Math.max.name Lib.Math.max.code 2 (some .int), Cond.methodLink RX0 33 yX0_hasGate, Cond.instanceMethod yX0_hasGate, Cond.selects RX0 yX0_hasGate yX0_hasGate, Cond.code yX0_hasGate cX0_hasGate 2 (some .boolean), Cond.methodLink RX0 46 yX1_hissThere, Cond.instanceMethod yX1_hissThere, Cond.selects RX1 yX1_hissThere yX1_hissThere]
def wsX3_passBeats_r4 : List Cond := [Cond.code yX1_hissThere cX1_hissThere 5 (some .int), Cond.fieldLink RX1 15 "GooseCodex$Flock" "temper" "[I", Cond.methodLink RX1 28 yX1_isAwakeThere, Cond.instanceMethod yX1_isAwakeThere, Cond.selects RX1 yX1_isAwakeThere yX1_isAwakeThere, Cond.code yX1_isAwakeThere cX1_isAwakeThere 3 (some .boolean), Cond.fieldLink RX1 9 "GooseCodex$Flock" "gate" "[I", Cond.methodLink RX0 104 yX1_enrage, Cond.instanceMethod yX1_enrage, Cond.selects RX1 yX1_enrage yX1_enrage, Cond.code yX1_enrage cX1_enrage 3 none, Cond.methodLink RX1 38 Lib.Math.min.name, Cond.static Lib.Math.min.name, Cond.code Lib.Math.min.name Lib.Math.min.code 2 (some .int), Cond.methodLink RX0 107 yX1_fiercestAwake, Cond.instanceMethod yX1_fiercestAwake, Cond.selects RX1 yX1_fiercestAwake yX1_fiercestAwake, Cond.code yX1_fiercestAwake cX1_fiercestAwake 5 (some .int), Cond.methodLink RX0 110 yX1_hasGoose, Cond.instanceMethod yX1_hasGoose, Cond.selects RX1 yX1_hasGoose yX1_hasGoose, Cond.code yX1_hasGoose cX1_hasGoose 2 (some .boolean), Cond.methodLink RX0 113 yX0_payGoose, Cond.instanceMethod yX0_payGoose]
def wsX3_passBeats_r5 : List Cond := [Cond.selects RX0 yX0_payGoose yX0_payGoose, Cond.code yX0_payGoose cX0_payGoose 3 none, Cond.fieldLink RX0 71 "GooseCodex$Farm" "bribeCount" "I", Cond.methodLink RX0 67 yX1_feed, Cond.instanceMethod yX1_feed, Cond.selects RX1 yX1_feed yX1_feed, Cond.code yX1_feed cX1_feed 2 none, Cond.fieldLink RX1 21 "GooseCodex$Flock" "eaten" "[I", Cond.methodLink RX1 32 Lib.Math.max.name, Cond.static yX3_gradeOfHiss, Cond.code yX3_gradeOfHiss cX3_gradeOfHiss 1 (some .int), Cond.methodLink RX0 120 yX2_fallBack, Cond.instanceMethod yX2_fallBack, Cond.selects RX2 yX2_fallBack yX2_fallBack, Cond.initialized RX2, Cond.code yX2_fallBack cX2_fallBack 3 none, Cond.fieldLink RX2 24 "GooseCodex$Guests" "retreat" "[I", Cond.fieldLink RX2 15 "GooseCodex$Guests" "nerve" "[I", Cond.methodLink RX2 31 Lib.Math.min.name, Cond.fieldLink RX2 21 "GooseCodex$Guests" "passed" "[I"]
def wsX3_passBeats : List Cond := .code yX3_passBeats cX3_passBeats 3 (some .int) :: ((wsX3_passBeats_r1 ++ (wsX3_passBeats_r2 ++ (wsX3_passBeats_r3 ++ (wsX3_passBeats_r4 ++ wsX3_passBeats_r5)))) ++ wsX30 ++ wsX00 ++ wsX20 ++ wsX10 ++ (vx_atS RX3 273 "java/lang/IllegalArgumentException" ["java/lang/RuntimeException", "java/lang/Exception"]).filter goodWord)
def wsX3_beats : List Cond := .code yX3_beats cX3_beats 1 (some .int) :: ([.fieldLink RX3 10 "GooseCodex" "now" "LGooseCodex$Farm;", .fieldLink RX3 123 "GooseCodex$Farm" "beat" "I"] ++ wsX30 ++ wsX00)
def wsX3_gates : List Cond := .code yX3_gates cX3_gates 1 (some .int) :: ([.fieldLink RX3 10 "GooseCodex" "now" "LGooseCodex$Farm;", .fieldLink RX3 27 "GooseCodex$Farm" "gateCount" "I"] ++ wsX30 ++ wsX00)
def wsX3_geese : List Cond := .code yX3_geese cX3_geese 1 (some .int) :: ([.fieldLink RX3 10 "GooseCodex" "now" "LGooseCodex$Farm;", .fieldLink RX3 57 "GooseCodex$Farm" "flock" "LGooseCodex$Flock;", .fieldLink RX3 61 "GooseCodex$Flock" "count" "I"] ++ wsX30 ++ wsX00 ++ wsX10)
def wsX3_visitors : List Cond := .code yX3_visitors cX3_visitors 1 (some .int) :: ([.fieldLink RX3 10 "GooseCodex" "now" "LGooseCodex$Farm;", .fieldLink RX3 31 "GooseCodex$Farm" "guests" "LGooseCodex$Guests;", .fieldLink RX3 35 "GooseCodex$Guests" "count" "I"] ++ wsX30 ++ wsX00 ++ wsX20)
def wsX3_inFarm : List Cond := .code yX3_inFarm cX3_inFarm 1 (some .int) :: ([.fieldLink RX3 10 "GooseCodex" "now" "LGooseCodex$Farm;", .methodLink RX3 116 yX0_countInside, .instanceMethod yX0_countInside, .selects RX0 yX0_countInside yX0_countInside, .initialized RX0, .code yX0_countInside cX0_countInside 3 (some .int), .fieldLink RX0 25 "GooseCodex$Farm" "guests" "LGooseCodex$Guests;", .fieldLink RX0 58 "GooseCodex$Guests" "count" "I", .methodLink RX0 61 yX0_isBehindAll, .instanceMethod yX0_isBehindAll, .selects RX0 yX0_isBehindAll yX0_isBehindAll, .code yX0_isBehindAll cX0_isBehindAll 2 (some .boolean), .fieldLink RX0 49 "GooseCodex$Guests" "passed" "[I", .fieldLink RX0 29 "GooseCodex$Farm" "gateCount" "I"] ++ wsX30 ++ wsX00 ++ wsX20)
def wsX3_bribes : List Cond := .code yX3_bribes cX3_bribes 1 (some .int) :: ([.fieldLink RX3 10 "GooseCodex" "now" "LGooseCodex$Farm;", .fieldLink RX3 126 "GooseCodex$Farm" "bribeCount" "I"] ++ wsX30 ++ wsX00)
def wsX3_retreats : List Cond := .code yX3_retreats cX3_retreats 1 (some .int) :: ([.fieldLink RX3 10 "GooseCodex" "now" "LGooseCodex$Farm;", .fieldLink RX3 129 "GooseCodex$Farm" "retreatCount" "I"] ++ wsX30 ++ wsX00)
def wsX3_rankOf : List Cond := .code yX3_rankOf cX3_rankOf 2 (some .int) :: ([.fieldLink RX3 10 "GooseCodex" "now" "LGooseCodex$Farm;", .fieldLink RX3 75 "GooseCodex$Farm" "ranks" "[I", .methodLink RX3 47 yX0_hasGate, .instanceMethod yX0_hasGate, .selects RX0 yX0_hasGate yX0_hasGate, .initialized RX0, .code yX0_hasGate cX0_hasGate 2 (some .boolean), .fieldLink RX0 29 "GooseCodex$Farm" "gateCount" "I", .methodLink RX3 50 yX3_demandIndex, .static yX3_demandIndex, .initialized RX3, .code yX3_demandIndex cX3_demandIndex 1 none, .classLink RX3 262 "java/lang/IndexOutOfBoundsException", .initialized "java/lang/IndexOutOfBoundsException"] ++ wsX30 ++ wsX00 ++ (vx_atS RX3 266 "java/lang/IndexOutOfBoundsException" ["java/lang/RuntimeException", "java/lang/Exception"]).filter goodWord)
def wsX3_awakeAt_r1 : List Cond := [Cond.fieldLink RX3 10 "GooseCodex" "now" "LGooseCodex$Farm;", Cond.fieldLink RX3 57 "GooseCodex$Farm" "flock" "LGooseCodex$Flock;", Cond.methodLink RX3 47 yX0_hasGate, Cond.instanceMethod yX0_hasGate, Cond.selects RX0 yX0_hasGate yX0_hasGate, Cond.initialized RX0, Cond.code yX0_hasGate cX0_hasGate 2 (some .boolean), Cond.fieldLink RX0 29 "GooseCodex$Farm" "gateCount" "I", Cond.methodLink RX3 50 yX3_demandIndex, Cond.static yX3_demandIndex, Cond.initialized RX3, Cond.code yX3_demandIndex cX3_demandIndex 1 none, Cond.classLink RX3 262 "java/lang/IndexOutOfBoundsException", Cond.initialized "java/lang/IndexOutOfBoundsException", Cond.methodLink RX3 132 yX1_countAwake, Cond.instanceMethod yX1_countAwake, Cond.selects RX1 yX1_countAwake yX1_countAwake, Cond.initialized RX1, Cond.code yX1_countAwake cX1_countAwake 4 (some .int), Cond.fieldLink RX1 24 "GooseCodex$Flock" "count" "I", Cond.methodLink RX1 28 yX1_isAwakeThere, Cond.instanceMethod yX1_isAwakeThere, Cond.selects RX1 yX1_isAwakeThere yX1_isAwakeThere, Cond.code yX1_isAwakeThere cX1_isAwakeThere 3 (some .boolean)]
def wsX3_awakeAt_r2 : List Cond := [Cond.fieldLink RX1 9 "GooseCodex$Flock" "gate" "[I", Cond.fieldLink RX1 18 "GooseCodex$Flock" "calm" "[I"]
def wsX3_awakeAt : List Cond := .code yX3_awakeAt cX3_awakeAt 2 (some .int) :: ((wsX3_awakeAt_r1 ++ wsX3_awakeAt_r2) ++ wsX30 ++ wsX00 ++ wsX10 ++ (vx_atS RX3 266 "java/lang/IndexOutOfBoundsException" ["java/lang/RuntimeException", "java/lang/Exception"]).filter goodWord)
def wsX3_hissOf_r1 : List Cond := [Cond.fieldLink RX3 10 "GooseCodex" "now" "LGooseCodex$Farm;", Cond.methodLink RX3 47 yX0_hasGate, Cond.instanceMethod yX0_hasGate, Cond.selects RX0 yX0_hasGate yX0_hasGate, Cond.initialized RX0, Cond.code yX0_hasGate cX0_hasGate 2 (some .boolean), Cond.fieldLink RX0 29 "GooseCodex$Farm" "gateCount" "I", Cond.methodLink RX3 50 yX3_demandIndex, Cond.static yX3_demandIndex, Cond.initialized RX3, Cond.code yX3_demandIndex cX3_demandIndex 1 none, Cond.classLink RX3 262 "java/lang/IndexOutOfBoundsException", Cond.initialized "java/lang/IndexOutOfBoundsException", Cond.methodLink RX3 19 yX3_isRank, Cond.static yX3_isRank, Cond.code yX3_isRank cX3_isRank 1 (some .boolean), Cond.methodLink RX3 53 yX3_isWithin, Cond.static yX3_isWithin, Cond.code yX3_isWithin cX3_isWithin 3 (some .boolean), Cond.methodLink RX3 23 yX3_demandArgument, Cond.static yX3_demandArgument, Cond.code yX3_demandArgument cX3_demandArgument 1 none, Cond.classLink RX3 269 "java/lang/IllegalArgumentException", Cond.initialized "java/lang/IllegalArgumentException"]
def wsX3_hissOf_r2 : List Cond := [Cond.methodLink RX3 135 yX0_gateHiss, Cond.instanceMethod yX0_gateHiss, Cond.selects RX0 yX0_gateHiss yX0_gateHiss, Cond.code yX0_gateHiss cX0_gateHiss 3 (some .int), Cond.fieldLink RX0 18 "GooseCodex$Farm" "flock" "LGooseCodex$Flock;", Cond.methodLink RX0 43 yX0_rankLack, Cond.instanceMethod yX0_rankLack, Cond.selects RX0 yX0_rankLack yX0_rankLack, Cond.code yX0_rankLack cX0_rankLack 3 (some .int), Cond.fieldLink RX0 9 "GooseCodex$Farm" "ranks" "[I", Cond.methodLink RX0 37 Lib.Math.max.name, Cond.static Lib.Math.max.name, Cond.initialized "java/lang/Math", Cond.code Lib.Math.max.name Lib.Math.max.code 2 (some .int), Cond.methodLink RX0 33 yX0_hasGate, Cond.methodLink RX0 46 yX1_hissThere, Cond.instanceMethod yX1_hissThere, Cond.selects RX1 yX1_hissThere yX1_hissThere, Cond.initialized RX1, Cond.code yX1_hissThere cX1_hissThere 5 (some .int), Cond.fieldLink RX1 24 "GooseCodex$Flock" "count" "I", Cond.fieldLink RX1 15 "GooseCodex$Flock" "temper" "[I", Cond.methodLink RX1 28 yX1_isAwakeThere, Cond.instanceMethod yX1_isAwakeThere]
def wsX3_hissOf_r3 : List Cond := [Cond.selects RX1 yX1_isAwakeThere yX1_isAwakeThere, Cond.code yX1_isAwakeThere cX1_isAwakeThere 3 (some .boolean), Cond.fieldLink RX1 9 "GooseCodex$Flock" "gate" "[I", Cond.fieldLink RX1 18 "GooseCodex$Flock" "calm" "[I"]
def wsX3_hissOf : List Cond := .code yX3_hissOf cX3_hissOf 3 (some .int) :: ((wsX3_hissOf_r1 ++ (wsX3_hissOf_r2 ++ wsX3_hissOf_r3)) ++ wsX30 ++ wsX00 ++ wsX10 ++ (vx_atS RX3 266 "java/lang/IndexOutOfBoundsException" ["java/lang/RuntimeException", "java/lang/Exception"]).filter goodWord ++ (vx_atS RX3 273 "java/lang/IllegalArgumentException" ["java/lang/RuntimeException", "java/lang/Exception"]).filter goodWord)
def wsX3_loudestGate_r1 : List Cond := [Cond.fieldLink RX3 10 "GooseCodex" "now" "LGooseCodex$Farm;", Cond.fieldLink RX3 27 "GooseCodex$Farm" "gateCount" "I", Cond.methodLink RX3 135 yX0_gateHiss, Cond.instanceMethod yX0_gateHiss, Cond.selects RX0 yX0_gateHiss yX0_gateHiss, Cond.initialized RX0, Cond.code yX0_gateHiss cX0_gateHiss 3 (some .int), Cond.fieldLink RX0 18 "GooseCodex$Farm" "flock" "LGooseCodex$Flock;", Cond.methodLink RX0 43 yX0_rankLack, Cond.instanceMethod yX0_rankLack, Cond.selects RX0 yX0_rankLack yX0_rankLack, Cond.code yX0_rankLack cX0_rankLack 3 (some .int), Cond.fieldLink RX0 9 "GooseCodex$Farm" "ranks" "[I", Cond.methodLink RX0 37 Lib.Math.max.name, Cond.static Lib.Math.max.name, Cond.initialized "java/lang/Math", Cond.code Lib.Math.max.name Lib.Math.max.code 2 (some .int), Cond.methodLink RX0 33 yX0_hasGate, Cond.instanceMethod yX0_hasGate, Cond.selects RX0 yX0_hasGate yX0_hasGate, Cond.code yX0_hasGate cX0_hasGate 2 (some .boolean), Cond.fieldLink RX0 29 "GooseCodex$Farm" "gateCount" "I", Cond.methodLink RX0 46 yX1_hissThere, Cond.instanceMethod yX1_hissThere]
def wsX3_loudestGate_r2 : List Cond := [Cond.selects RX1 yX1_hissThere yX1_hissThere, Cond.initialized RX1, Cond.code yX1_hissThere cX1_hissThere 5 (some .int), Cond.fieldLink RX1 24 "GooseCodex$Flock" "count" "I", Cond.fieldLink RX1 15 "GooseCodex$Flock" "temper" "[I", Cond.methodLink RX1 28 yX1_isAwakeThere, Cond.instanceMethod yX1_isAwakeThere, Cond.selects RX1 yX1_isAwakeThere yX1_isAwakeThere, Cond.code yX1_isAwakeThere cX1_isAwakeThere 3 (some .boolean), Cond.fieldLink RX1 9 "GooseCodex$Flock" "gate" "[I", Cond.fieldLink RX1 18 "GooseCodex$Flock" "calm" "[I"]
def wsX3_loudestGate : List Cond := .code yX3_loudestGate cX3_loudestGate 5 (some .int) :: ((wsX3_loudestGate_r1 ++ wsX3_loudestGate_r2) ++ wsX30 ++ wsX00 ++ wsX10)
def wsX3_gateOf : List Cond := .code yX3_gateOf cX3_gateOf 2 (some .int) :: ([.fieldLink RX3 10 "GooseCodex" "now" "LGooseCodex$Farm;", .fieldLink RX3 57 "GooseCodex$Farm" "flock" "LGooseCodex$Flock;", .fieldLink RX3 82 "GooseCodex$Flock" "gate" "[I", .methodLink RX3 97 yX3_demandGoose, .instanceMethod yX3_demandGoose, .selects RX3 yX3_demandGoose yX3_demandGoose, .initialized RX3, .code yX3_demandGoose cX3_demandGoose 2 none, .methodLink RX3 79 yX1_hasGoose, .instanceMethod yX1_hasGoose, .selects RX1 yX1_hasGoose yX1_hasGoose, .initialized RX1, .code yX1_hasGoose cX1_hasGoose 2 (some .boolean), .fieldLink RX1 24 "GooseCodex$Flock" "count" "I", .methodLink RX3 50 yX3_demandIndex, .static yX3_demandIndex, .code yX3_demandIndex cX3_demandIndex 1 none, .classLink RX3 262 "java/lang/IndexOutOfBoundsException", .initialized "java/lang/IndexOutOfBoundsException"] ++ wsX30 ++ wsX00 ++ wsX10 ++ (vx_atS RX3 266 "java/lang/IndexOutOfBoundsException" ["java/lang/RuntimeException", "java/lang/Exception"]).filter goodWord)
def wsX3_temperOf : List Cond := .code yX3_temperOf cX3_temperOf 2 (some .int) :: ([.fieldLink RX3 10 "GooseCodex" "now" "LGooseCodex$Farm;", .fieldLink RX3 57 "GooseCodex$Farm" "flock" "LGooseCodex$Flock;", .fieldLink RX3 110 "GooseCodex$Flock" "temper" "[I", .methodLink RX3 97 yX3_demandGoose, .instanceMethod yX3_demandGoose, .selects RX3 yX3_demandGoose yX3_demandGoose, .initialized RX3, .code yX3_demandGoose cX3_demandGoose 2 none, .methodLink RX3 79 yX1_hasGoose, .instanceMethod yX1_hasGoose, .selects RX1 yX1_hasGoose yX1_hasGoose, .initialized RX1, .code yX1_hasGoose cX1_hasGoose 2 (some .boolean), .fieldLink RX1 24 "GooseCodex$Flock" "count" "I", .methodLink RX3 50 yX3_demandIndex, .static yX3_demandIndex, .code yX3_demandIndex cX3_demandIndex 1 none, .classLink RX3 262 "java/lang/IndexOutOfBoundsException", .initialized "java/lang/IndexOutOfBoundsException"] ++ wsX30 ++ wsX00 ++ wsX10 ++ (vx_atS RX3 266 "java/lang/IndexOutOfBoundsException" ["java/lang/RuntimeException", "java/lang/Exception"]).filter goodWord)
def wsX3_calmFor : List Cond := .code yX3_calmFor cX3_calmFor 2 (some .int) :: ([.fieldLink RX3 10 "GooseCodex" "now" "LGooseCodex$Farm;", .fieldLink RX3 57 "GooseCodex$Farm" "flock" "LGooseCodex$Flock;", .fieldLink RX3 138 "GooseCodex$Flock" "calm" "[I", .methodLink RX3 97 yX3_demandGoose, .instanceMethod yX3_demandGoose, .selects RX3 yX3_demandGoose yX3_demandGoose, .initialized RX3, .code yX3_demandGoose cX3_demandGoose 2 none, .methodLink RX3 79 yX1_hasGoose, .instanceMethod yX1_hasGoose, .selects RX1 yX1_hasGoose yX1_hasGoose, .initialized RX1, .code yX1_hasGoose cX1_hasGoose 2 (some .boolean), .fieldLink RX1 24 "GooseCodex$Flock" "count" "I", .methodLink RX3 50 yX3_demandIndex, .static yX3_demandIndex, .code yX3_demandIndex cX3_demandIndex 1 none, .classLink RX3 262 "java/lang/IndexOutOfBoundsException", .initialized "java/lang/IndexOutOfBoundsException"] ++ wsX30 ++ wsX00 ++ wsX10 ++ (vx_atS RX3 266 "java/lang/IndexOutOfBoundsException" ["java/lang/RuntimeException", "java/lang/Exception"]).filter goodWord)
def wsX3_eatenBy : List Cond := .code yX3_eatenBy cX3_eatenBy 2 (some .int) :: ([.fieldLink RX3 10 "GooseCodex" "now" "LGooseCodex$Farm;", .fieldLink RX3 57 "GooseCodex$Farm" "flock" "LGooseCodex$Flock;", .fieldLink RX3 141 "GooseCodex$Flock" "eaten" "[I", .methodLink RX3 97 yX3_demandGoose, .instanceMethod yX3_demandGoose, .selects RX3 yX3_demandGoose yX3_demandGoose, .initialized RX3, .code yX3_demandGoose cX3_demandGoose 2 none, .methodLink RX3 79 yX1_hasGoose, .instanceMethod yX1_hasGoose, .selects RX1 yX1_hasGoose yX1_hasGoose, .initialized RX1, .code yX1_hasGoose cX1_hasGoose 2 (some .boolean), .fieldLink RX1 24 "GooseCodex$Flock" "count" "I", .methodLink RX3 50 yX3_demandIndex, .static yX3_demandIndex, .code yX3_demandIndex cX3_demandIndex 1 none, .classLink RX3 262 "java/lang/IndexOutOfBoundsException", .initialized "java/lang/IndexOutOfBoundsException"] ++ wsX30 ++ wsX00 ++ wsX10 ++ (vx_atS RX3 266 "java/lang/IndexOutOfBoundsException" ["java/lang/RuntimeException", "java/lang/Exception"]).filter goodWord)
def wsX3_passedBy : List Cond := .code yX3_passedBy cX3_passedBy 2 (some .int) :: ([.fieldLink RX3 10 "GooseCodex" "now" "LGooseCodex$Farm;", .fieldLink RX3 31 "GooseCodex$Farm" "guests" "LGooseCodex$Guests;", .fieldLink RX3 103 "GooseCodex$Guests" "passed" "[I", .methodLink RX3 85 yX3_demandVisitor, .instanceMethod yX3_demandVisitor, .selects RX3 yX3_demandVisitor yX3_demandVisitor, .initialized RX3, .code yX3_demandVisitor cX3_demandVisitor 2 none, .methodLink RX3 259 yX2_hasGuest, .instanceMethod yX2_hasGuest, .selects RX2 yX2_hasGuest yX2_hasGuest, .initialized RX2, .code yX2_hasGuest cX2_hasGuest 2 (some .boolean), .fieldLink RX2 27 "GooseCodex$Guests" "count" "I", .methodLink RX3 50 yX3_demandIndex, .static yX3_demandIndex, .code yX3_demandIndex cX3_demandIndex 1 none, .classLink RX3 262 "java/lang/IndexOutOfBoundsException", .initialized "java/lang/IndexOutOfBoundsException"] ++ wsX30 ++ wsX00 ++ wsX20 ++ (vx_atS RX3 266 "java/lang/IndexOutOfBoundsException" ["java/lang/RuntimeException", "java/lang/Exception"]).filter goodWord)
def wsX3_isInFarm_r1 : List Cond := [Cond.fieldLink RX3 10 "GooseCodex" "now" "LGooseCodex$Farm;", Cond.methodLink RX3 85 yX3_demandVisitor, Cond.instanceMethod yX3_demandVisitor, Cond.selects RX3 yX3_demandVisitor yX3_demandVisitor, Cond.initialized RX3, Cond.code yX3_demandVisitor cX3_demandVisitor 2 none, Cond.fieldLink RX3 31 "GooseCodex$Farm" "guests" "LGooseCodex$Guests;", Cond.methodLink RX3 259 yX2_hasGuest, Cond.instanceMethod yX2_hasGuest, Cond.selects RX2 yX2_hasGuest yX2_hasGuest, Cond.initialized RX2, Cond.code yX2_hasGuest cX2_hasGuest 2 (some .boolean), Cond.fieldLink RX2 27 "GooseCodex$Guests" "count" "I", Cond.methodLink RX3 50 yX3_demandIndex, Cond.static yX3_demandIndex, Cond.code yX3_demandIndex cX3_demandIndex 1 none, Cond.classLink RX3 262 "java/lang/IndexOutOfBoundsException", Cond.initialized "java/lang/IndexOutOfBoundsException", Cond.methodLink RX3 100 yX0_isBehindAll, Cond.instanceMethod yX0_isBehindAll, Cond.selects RX0 yX0_isBehindAll yX0_isBehindAll, Cond.initialized RX0, Cond.code yX0_isBehindAll cX0_isBehindAll 2 (some .boolean), Cond.fieldLink RX0 25 "GooseCodex$Farm" "guests" "LGooseCodex$Guests;"]
def wsX3_isInFarm_r2 : List Cond := [Cond.fieldLink RX0 49 "GooseCodex$Guests" "passed" "[I", Cond.fieldLink RX0 29 "GooseCodex$Farm" "gateCount" "I"]
def wsX3_isInFarm : List Cond := .code yX3_isInFarm cX3_isInFarm 2 (some .boolean) :: ((wsX3_isInFarm_r1 ++ wsX3_isInFarm_r2) ++ wsX30 ++ wsX00 ++ wsX20 ++ (vx_atS RX3 266 "java/lang/IndexOutOfBoundsException" ["java/lang/RuntimeException", "java/lang/Exception"]).filter goodWord)
def wsX3_cornsOf : List Cond := .code yX3_cornsOf cX3_cornsOf 2 (some .int) :: ([.fieldLink RX3 10 "GooseCodex" "now" "LGooseCodex$Farm;", .fieldLink RX3 31 "GooseCodex$Farm" "guests" "LGooseCodex$Guests;", .fieldLink RX3 89 "GooseCodex$Guests" "corns" "[I", .methodLink RX3 85 yX3_demandVisitor, .instanceMethod yX3_demandVisitor, .selects RX3 yX3_demandVisitor yX3_demandVisitor, .initialized RX3, .code yX3_demandVisitor cX3_demandVisitor 2 none, .methodLink RX3 259 yX2_hasGuest, .instanceMethod yX2_hasGuest, .selects RX2 yX2_hasGuest yX2_hasGuest, .initialized RX2, .code yX2_hasGuest cX2_hasGuest 2 (some .boolean), .fieldLink RX2 27 "GooseCodex$Guests" "count" "I", .methodLink RX3 50 yX3_demandIndex, .static yX3_demandIndex, .code yX3_demandIndex cX3_demandIndex 1 none, .classLink RX3 262 "java/lang/IndexOutOfBoundsException", .initialized "java/lang/IndexOutOfBoundsException"] ++ wsX30 ++ wsX00 ++ wsX20 ++ (vx_atS RX3 266 "java/lang/IndexOutOfBoundsException" ["java/lang/RuntimeException", "java/lang/Exception"]).filter goodWord)
def wsX3_nerveOf : List Cond := .code yX3_nerveOf cX3_nerveOf 2 (some .int) :: ([.fieldLink RX3 10 "GooseCodex" "now" "LGooseCodex$Farm;", .fieldLink RX3 31 "GooseCodex$Farm" "guests" "LGooseCodex$Guests;", .fieldLink RX3 144 "GooseCodex$Guests" "nerve" "[I", .methodLink RX3 85 yX3_demandVisitor, .instanceMethod yX3_demandVisitor, .selects RX3 yX3_demandVisitor yX3_demandVisitor, .initialized RX3, .code yX3_demandVisitor cX3_demandVisitor 2 none, .methodLink RX3 259 yX2_hasGuest, .instanceMethod yX2_hasGuest, .selects RX2 yX2_hasGuest yX2_hasGuest, .initialized RX2, .code yX2_hasGuest cX2_hasGuest 2 (some .boolean), .fieldLink RX2 27 "GooseCodex$Guests" "count" "I", .methodLink RX3 50 yX3_demandIndex, .static yX3_demandIndex, .code yX3_demandIndex cX3_demandIndex 1 none, .classLink RX3 262 "java/lang/IndexOutOfBoundsException", .initialized "java/lang/IndexOutOfBoundsException"] ++ wsX30 ++ wsX00 ++ wsX20 ++ (vx_atS RX3 266 "java/lang/IndexOutOfBoundsException" ["java/lang/RuntimeException", "java/lang/Exception"]).filter goodWord)
def wsX3_retreatOf : List Cond := .code yX3_retreatOf cX3_retreatOf 2 (some .int) :: ([.fieldLink RX3 10 "GooseCodex" "now" "LGooseCodex$Farm;", .fieldLink RX3 31 "GooseCodex$Farm" "guests" "LGooseCodex$Guests;", .fieldLink RX3 147 "GooseCodex$Guests" "retreat" "[I", .methodLink RX3 85 yX3_demandVisitor, .instanceMethod yX3_demandVisitor, .selects RX3 yX3_demandVisitor yX3_demandVisitor, .initialized RX3, .code yX3_demandVisitor cX3_demandVisitor 2 none, .methodLink RX3 259 yX2_hasGuest, .instanceMethod yX2_hasGuest, .selects RX2 yX2_hasGuest yX2_hasGuest, .initialized RX2, .code yX2_hasGuest cX2_hasGuest 2 (some .boolean), .fieldLink RX2 27 "GooseCodex$Guests" "count" "I", .methodLink RX3 50 yX3_demandIndex, .static yX3_demandIndex, .code yX3_demandIndex cX3_demandIndex 1 none, .classLink RX3 262 "java/lang/IndexOutOfBoundsException", .initialized "java/lang/IndexOutOfBoundsException"] ++ wsX30 ++ wsX00 ++ wsX20 ++ (vx_atS RX3 266 "java/lang/IndexOutOfBoundsException" ["java/lang/RuntimeException", "java/lang/Exception"]).filter goodWord)
def wsX3_hissAt_r1 : List Cond := [Cond.fieldLink RX3 10 "GooseCodex" "now" "LGooseCodex$Farm;", Cond.methodLink RX3 85 yX3_demandVisitor, Cond.instanceMethod yX3_demandVisitor, Cond.selects RX3 yX3_demandVisitor yX3_demandVisitor, Cond.initialized RX3, Cond.code yX3_demandVisitor cX3_demandVisitor 2 none, Cond.fieldLink RX3 31 "GooseCodex$Farm" "guests" "LGooseCodex$Guests;", Cond.methodLink RX3 259 yX2_hasGuest, Cond.instanceMethod yX2_hasGuest, Cond.selects RX2 yX2_hasGuest yX2_hasGuest, Cond.initialized RX2, Cond.code yX2_hasGuest cX2_hasGuest 2 (some .boolean), Cond.fieldLink RX2 27 "GooseCodex$Guests" "count" "I", Cond.methodLink RX3 50 yX3_demandIndex, Cond.static yX3_demandIndex, Cond.code yX3_demandIndex cX3_demandIndex 1 none, Cond.classLink RX3 262 "java/lang/IndexOutOfBoundsException", Cond.initialized "java/lang/IndexOutOfBoundsException", Cond.methodLink RX3 150 yX0_guestHiss, Cond.instanceMethod yX0_guestHiss, Cond.selects RX0 yX0_guestHiss yX0_guestHiss, Cond.initialized RX0, Cond.code yX0_guestHiss cX0_guestHiss 2 (some .int), Cond.fieldLink RX0 25 "GooseCodex$Farm" "guests" "LGooseCodex$Guests;"]
def wsX3_hissAt_r2 : List Cond := [Cond.fieldLink RX0 49 "GooseCodex$Guests" "passed" "[I", Cond.fieldLink RX0 52 "GooseCodex$Guests" "rank" "[I", Cond.methodLink RX0 55 yX0_gateHiss, Cond.instanceMethod yX0_gateHiss, Cond.selects RX0 yX0_gateHiss yX0_gateHiss, Cond.code yX0_gateHiss cX0_gateHiss 3 (some .int), Cond.fieldLink RX0 18 "GooseCodex$Farm" "flock" "LGooseCodex$Flock;", Cond.methodLink RX0 43 yX0_rankLack, Cond.instanceMethod yX0_rankLack, Cond.selects RX0 yX0_rankLack yX0_rankLack, Cond.code yX0_rankLack cX0_rankLack 3 (some .int), Cond.fieldLink RX0 9 "GooseCodex$Farm" "ranks" "[I", Cond.methodLink RX0 37 Lib.Math.max.name, Cond.static Lib.Math.max.name, Cond.initialized "java/lang/Math", Cond.code Lib.Math.max.name Lib.Math.max.code 2 (some .int), Cond.methodLink RX0 33 yX0_hasGate, Cond.instanceMethod yX0_hasGate, Cond.selects RX0 yX0_hasGate yX0_hasGate, Cond.code yX0_hasGate cX0_hasGate 2 (some .boolean), Cond.fieldLink RX0 29 "GooseCodex$Farm" "gateCount" "I", Cond.methodLink RX0 46 yX1_hissThere, Cond.instanceMethod yX1_hissThere, Cond.selects RX1 yX1_hissThere yX1_hissThere]
def wsX3_hissAt_r3 : List Cond := [Cond.initialized RX1, Cond.code yX1_hissThere cX1_hissThere 5 (some .int), Cond.fieldLink RX1 24 "GooseCodex$Flock" "count" "I", Cond.fieldLink RX1 15 "GooseCodex$Flock" "temper" "[I", Cond.methodLink RX1 28 yX1_isAwakeThere, Cond.instanceMethod yX1_isAwakeThere, Cond.selects RX1 yX1_isAwakeThere yX1_isAwakeThere, Cond.code yX1_isAwakeThere cX1_isAwakeThere 3 (some .boolean), Cond.fieldLink RX1 9 "GooseCodex$Flock" "gate" "[I", Cond.fieldLink RX1 18 "GooseCodex$Flock" "calm" "[I"]
def wsX3_hissAt : List Cond := .code yX3_hissAt cX3_hissAt 2 (some .int) :: ((wsX3_hissAt_r1 ++ (wsX3_hissAt_r2 ++ wsX3_hissAt_r3)) ++ wsX30 ++ wsX00 ++ wsX20 ++ wsX10 ++ (vx_atS RX3 266 "java/lang/IndexOutOfBoundsException" ["java/lang/RuntimeException", "java/lang/Exception"]).filter goodWord)
def wsX3_gradeFor_r1 : List Cond := [Cond.fieldLink RX3 10 "GooseCodex" "now" "LGooseCodex$Farm;", Cond.methodLink RX3 85 yX3_demandVisitor, Cond.instanceMethod yX3_demandVisitor, Cond.selects RX3 yX3_demandVisitor yX3_demandVisitor, Cond.initialized RX3, Cond.code yX3_demandVisitor cX3_demandVisitor 2 none, Cond.fieldLink RX3 31 "GooseCodex$Farm" "guests" "LGooseCodex$Guests;", Cond.methodLink RX3 259 yX2_hasGuest, Cond.instanceMethod yX2_hasGuest, Cond.selects RX2 yX2_hasGuest yX2_hasGuest, Cond.initialized RX2, Cond.code yX2_hasGuest cX2_hasGuest 2 (some .boolean), Cond.fieldLink RX2 27 "GooseCodex$Guests" "count" "I", Cond.methodLink RX3 50 yX3_demandIndex, Cond.static yX3_demandIndex, Cond.code yX3_demandIndex cX3_demandIndex 1 none, Cond.classLink RX3 262 "java/lang/IndexOutOfBoundsException", Cond.initialized "java/lang/IndexOutOfBoundsException", Cond.methodLink RX3 150 yX0_guestHiss, Cond.instanceMethod yX0_guestHiss, Cond.selects RX0 yX0_guestHiss yX0_guestHiss, Cond.initialized RX0, Cond.code yX0_guestHiss cX0_guestHiss 2 (some .int), Cond.fieldLink RX0 25 "GooseCodex$Farm" "guests" "LGooseCodex$Guests;"]
def wsX3_gradeFor_r2 : List Cond := [Cond.fieldLink RX0 49 "GooseCodex$Guests" "passed" "[I", Cond.fieldLink RX0 52 "GooseCodex$Guests" "rank" "[I", Cond.methodLink RX0 55 yX0_gateHiss, Cond.instanceMethod yX0_gateHiss, Cond.selects RX0 yX0_gateHiss yX0_gateHiss, Cond.code yX0_gateHiss cX0_gateHiss 3 (some .int), Cond.fieldLink RX0 18 "GooseCodex$Farm" "flock" "LGooseCodex$Flock;", Cond.methodLink RX0 43 yX0_rankLack, Cond.instanceMethod yX0_rankLack, Cond.selects RX0 yX0_rankLack yX0_rankLack, Cond.code yX0_rankLack cX0_rankLack 3 (some .int), Cond.fieldLink RX0 9 "GooseCodex$Farm" "ranks" "[I", Cond.methodLink RX0 37 Lib.Math.max.name, Cond.static Lib.Math.max.name, Cond.initialized "java/lang/Math", Cond.code Lib.Math.max.name Lib.Math.max.code 2 (some .int), Cond.methodLink RX0 33 yX0_hasGate, Cond.instanceMethod yX0_hasGate, Cond.selects RX0 yX0_hasGate yX0_hasGate, Cond.code yX0_hasGate cX0_hasGate 2 (some .boolean), Cond.fieldLink RX0 29 "GooseCodex$Farm" "gateCount" "I", Cond.methodLink RX0 46 yX1_hissThere, Cond.instanceMethod yX1_hissThere, Cond.selects RX1 yX1_hissThere yX1_hissThere]
def wsX3_gradeFor_r3 : List Cond := [Cond.initialized RX1, Cond.code yX1_hissThere cX1_hissThere 5 (some .int), Cond.fieldLink RX1 24 "GooseCodex$Flock" "count" "I", Cond.fieldLink RX1 15 "GooseCodex$Flock" "temper" "[I", Cond.methodLink RX1 28 yX1_isAwakeThere, Cond.instanceMethod yX1_isAwakeThere, Cond.selects RX1 yX1_isAwakeThere yX1_isAwakeThere, Cond.code yX1_isAwakeThere cX1_isAwakeThere 3 (some .boolean), Cond.fieldLink RX1 9 "GooseCodex$Flock" "gate" "[I", Cond.fieldLink RX1 18 "GooseCodex$Flock" "calm" "[I", Cond.methodLink RX3 153 yX3_gradeOfHiss, Cond.static yX3_gradeOfHiss, Cond.code yX3_gradeOfHiss cX3_gradeOfHiss 1 (some .int)]
def wsX3_gradeFor : List Cond := .code yX3_gradeFor cX3_gradeFor 2 (some .int) :: ((wsX3_gradeFor_r1 ++ (wsX3_gradeFor_r2 ++ wsX3_gradeFor_r3)) ++ wsX30 ++ wsX00 ++ wsX20 ++ wsX10 ++ (vx_atS RX3 266 "java/lang/IndexOutOfBoundsException" ["java/lang/RuntimeException", "java/lang/Exception"]).filter goodWord)
def wsX3_dares_r1 : List Cond := [Cond.fieldLink RX3 10 "GooseCodex" "now" "LGooseCodex$Farm;", Cond.fieldLink RX3 31 "GooseCodex$Farm" "guests" "LGooseCodex$Guests;", Cond.fieldLink RX3 144 "GooseCodex$Guests" "nerve" "[I", Cond.methodLink RX3 85 yX3_demandVisitor, Cond.instanceMethod yX3_demandVisitor, Cond.selects RX3 yX3_demandVisitor yX3_demandVisitor, Cond.initialized RX3, Cond.code yX3_demandVisitor cX3_demandVisitor 2 none, Cond.methodLink RX3 259 yX2_hasGuest, Cond.instanceMethod yX2_hasGuest, Cond.selects RX2 yX2_hasGuest yX2_hasGuest, Cond.initialized RX2, Cond.code yX2_hasGuest cX2_hasGuest 2 (some .boolean), Cond.fieldLink RX2 27 "GooseCodex$Guests" "count" "I", Cond.methodLink RX3 50 yX3_demandIndex, Cond.static yX3_demandIndex, Cond.code yX3_demandIndex cX3_demandIndex 1 none, Cond.classLink RX3 262 "java/lang/IndexOutOfBoundsException", Cond.initialized "java/lang/IndexOutOfBoundsException", Cond.methodLink RX3 100 yX0_isBehindAll, Cond.instanceMethod yX0_isBehindAll, Cond.selects RX0 yX0_isBehindAll yX0_isBehindAll, Cond.initialized RX0, Cond.code yX0_isBehindAll cX0_isBehindAll 2 (some .boolean)]
def wsX3_dares_r2 : List Cond := [Cond.fieldLink RX0 25 "GooseCodex$Farm" "guests" "LGooseCodex$Guests;", Cond.fieldLink RX0 49 "GooseCodex$Guests" "passed" "[I", Cond.fieldLink RX0 29 "GooseCodex$Farm" "gateCount" "I", Cond.methodLink RX3 150 yX0_guestHiss, Cond.instanceMethod yX0_guestHiss, Cond.selects RX0 yX0_guestHiss yX0_guestHiss, Cond.code yX0_guestHiss cX0_guestHiss 2 (some .int), Cond.fieldLink RX0 52 "GooseCodex$Guests" "rank" "[I", Cond.methodLink RX0 55 yX0_gateHiss, Cond.instanceMethod yX0_gateHiss, Cond.selects RX0 yX0_gateHiss yX0_gateHiss, Cond.code yX0_gateHiss cX0_gateHiss 3 (some .int), Cond.fieldLink RX0 18 "GooseCodex$Farm" "flock" "LGooseCodex$Flock;", Cond.methodLink RX0 43 yX0_rankLack, Cond.instanceMethod yX0_rankLack, Cond.selects RX0 yX0_rankLack yX0_rankLack, Cond.code yX0_rankLack cX0_rankLack 3 (some .int), Cond.fieldLink RX0 9 "GooseCodex$Farm" "ranks" "[I", Cond.methodLink RX0 37 Lib.Math.max.name, Cond.static Lib.Math.max.name, Cond.initialized "java/lang/Math", Cond.code Lib.Math.max.name Lib.Math.max.code 2 (some .int), Cond.methodLink RX0 33 yX0_hasGate, Cond.instanceMethod yX0_hasGate]
def wsX3_dares_r3 : List Cond := [Cond.selects RX0 yX0_hasGate yX0_hasGate, Cond.code yX0_hasGate cX0_hasGate 2 (some .boolean), Cond.methodLink RX0 46 yX1_hissThere, Cond.instanceMethod yX1_hissThere, Cond.selects RX1 yX1_hissThere yX1_hissThere, Cond.initialized RX1, Cond.code yX1_hissThere cX1_hissThere 5 (some .int), Cond.fieldLink RX1 24 "GooseCodex$Flock" "count" "I", Cond.fieldLink RX1 15 "GooseCodex$Flock" "temper" "[I", Cond.methodLink RX1 28 yX1_isAwakeThere, Cond.instanceMethod yX1_isAwakeThere, Cond.selects RX1 yX1_isAwakeThere yX1_isAwakeThere, Cond.code yX1_isAwakeThere cX1_isAwakeThere 3 (some .boolean), Cond.fieldLink RX1 9 "GooseCodex$Flock" "gate" "[I", Cond.fieldLink RX1 18 "GooseCodex$Flock" "calm" "[I"]
def wsX3_dares : List Cond := .code yX3_dares cX3_dares 2 (some .boolean) :: ((wsX3_dares_r1 ++ (wsX3_dares_r2 ++ wsX3_dares_r3)) ++ wsX30 ++ wsX00 ++ wsX20 ++ wsX10 ++ (vx_atS RX3 266 "java/lang/IndexOutOfBoundsException" ["java/lang/RuntimeException", "java/lang/Exception"]).filter goodWord)
def wsX3_beatsUntilIn_r1 : List Cond := [Cond.fieldLink RX3 16 "GooseCodex" "trial" "LGooseCodex$Farm;", Cond.fieldLink RX3 10 "GooseCodex" "now" "LGooseCodex$Farm;", Cond.methodLink RX3 85 yX3_demandVisitor, Cond.instanceMethod yX3_demandVisitor, Cond.selects RX3 yX3_demandVisitor yX3_demandVisitor, Cond.initialized RX3, Cond.code yX3_demandVisitor cX3_demandVisitor 2 none, Cond.fieldLink RX3 31 "GooseCodex$Farm" "guests" "LGooseCodex$Guests;", Cond.methodLink RX3 259 yX2_hasGuest, Cond.instanceMethod yX2_hasGuest, Cond.selects RX2 yX2_hasGuest yX2_hasGuest, Cond.initialized RX2, Cond.code yX2_hasGuest cX2_hasGuest 2 (some .boolean), Cond.fieldLink RX2 27 "GooseCodex$Guests" "count" "I", Cond.methodLink RX3 50 yX3_demandIndex, Cond.static yX3_demandIndex, Cond.code yX3_demandIndex cX3_demandIndex 1 none, Cond.classLink RX3 262 "java/lang/IndexOutOfBoundsException", Cond.initialized "java/lang/IndexOutOfBoundsException", Cond.methodLink RX3 156 yX0_copyFrom, Cond.instanceMethod yX0_copyFrom, Cond.selects RX0 yX0_copyFrom yX0_copyFrom, Cond.initialized RX0, Cond.code yX0_copyFrom cX0_copyFrom 2 none]
def wsX3_beatsUntilIn_r2 : List Cond := [Cond.fieldLink RX0 29 "GooseCodex$Farm" "gateCount" "I", Cond.fieldLink RX0 9 "GooseCodex$Farm" "ranks" "[I", Cond.methodLink RX0 126 arraycopyName, Cond.native arraycopyName, Cond.static arraycopyName, Cond.initialized "java/lang/System", Cond.fieldLink RX0 18 "GooseCodex$Farm" "flock" "LGooseCodex$Flock;", Cond.fieldLink RX0 25 "GooseCodex$Farm" "guests" "LGooseCodex$Guests;", Cond.fieldLink RX0 98 "GooseCodex$Farm" "beat" "I", Cond.fieldLink RX0 71 "GooseCodex$Farm" "bribeCount" "I", Cond.fieldLink RX0 123 "GooseCodex$Farm" "retreatCount" "I", Cond.methodLink RX0 132 yX1_copyFrom, Cond.instanceMethod yX1_copyFrom, Cond.selects RX1 yX1_copyFrom yX1_copyFrom, Cond.initialized RX1, Cond.code yX1_copyFrom cX1_copyFrom 2 none, Cond.fieldLink RX1 24 "GooseCodex$Flock" "count" "I", Cond.fieldLink RX1 9 "GooseCodex$Flock" "gate" "[I", Cond.methodLink RX1 41 arraycopyName, Cond.fieldLink RX1 15 "GooseCodex$Flock" "temper" "[I", Cond.fieldLink RX1 18 "GooseCodex$Flock" "calm" "[I", Cond.fieldLink RX1 21 "GooseCodex$Flock" "eaten" "[I", Cond.methodLink RX0 136 yX2_copyFrom, Cond.instanceMethod yX2_copyFrom]
def wsX3_beatsUntilIn_r3 : List Cond := [Cond.selects RX2 yX2_copyFrom yX2_copyFrom, Cond.code yX2_copyFrom cX2_copyFrom 2 none, Cond.fieldLink RX2 9 "GooseCodex$Guests" "rank" "[I", Cond.methodLink RX2 37 arraycopyName, Cond.fieldLink RX2 15 "GooseCodex$Guests" "nerve" "[I", Cond.fieldLink RX2 18 "GooseCodex$Guests" "corns" "[I", Cond.fieldLink RX2 21 "GooseCodex$Guests" "passed" "[I", Cond.fieldLink RX2 24 "GooseCodex$Guests" "retreat" "[I", Cond.methodLink RX3 160 yX0_beatsToFarm, Cond.instanceMethod yX0_beatsToFarm, Cond.selects RX0 yX0_beatsToFarm yX0_beatsToFarm, Cond.code yX0_beatsToFarm cX0_beatsToFarm 4 (some .int), Cond.methodLink RX0 61 yX0_isBehindAll, Cond.instanceMethod yX0_isBehindAll, Cond.selects RX0 yX0_isBehindAll yX0_isBehindAll, Cond.code yX0_isBehindAll cX0_isBehindAll 2 (some .boolean), Cond.fieldLink RX0 49 "GooseCodex$Guests" "passed" "[I", Cond.methodLink RX0 89 yX0_runBeat, Cond.instanceMethod yX0_runBeat, Cond.selects RX0 yX0_runBeat yX0_runBeat, Cond.code yX0_runBeat cX0_runBeat 2 none, Cond.fieldLink RX0 58 "GooseCodex$Guests" "count" "I", Cond.methodLink RX0 92 yX1_wakeByABeat, Cond.instanceMethod yX1_wakeByABeat]
def wsX3_beatsUntilIn_r4 : List Cond := [Cond.selects RX1 yX1_wakeByABeat yX1_wakeByABeat, Cond.code yX1_wakeByABeat cX1_wakeByABeat 2 none, Cond.methodLink RX0 95 yX0_moveGuest, Cond.instanceMethod yX0_moveGuest, Cond.selects RX0 yX0_moveGuest yX0_moveGuest, Cond.code yX0_moveGuest cX0_moveGuest 5 none, Cond.fieldLink RX0 101 "GooseCodex$Guests" "retreat" "[I", Cond.fieldLink RX0 52 "GooseCodex$Guests" "rank" "[I", Cond.fieldLink RX0 79 "GooseCodex$Guests" "nerve" "[I", Cond.fieldLink RX0 64 "GooseCodex$Guests" "corns" "[I", Cond.methodLink RX0 55 yX0_gateHiss, Cond.instanceMethod yX0_gateHiss, Cond.selects RX0 yX0_gateHiss yX0_gateHiss, Cond.code yX0_gateHiss cX0_gateHiss 3 (some .int), Cond.methodLink RX0 43 yX0_rankLack, Cond.instanceMethod yX0_rankLack, Cond.selects RX0 yX0_rankLack yX0_rankLack, Cond.code yX0_rankLack cX0_rankLack 3 (some .int), Cond.methodLink RX0 37 Lib.Math.max.name, Cond.static Lib.Math.max.name, Cond.initialized "java/lang/Math", Cond.code Lib.Math.max.name Lib.Math.max.code 2 (some .int), Cond.methodLink RX0 33 yX0_hasGate, Cond.instanceMethod yX0_hasGate]
def wsX3_beatsUntilIn_r5 : List Cond := [Cond.selects RX0 yX0_hasGate yX0_hasGate, Cond.code yX0_hasGate cX0_hasGate 2 (some .boolean), Cond.methodLink RX0 46 yX1_hissThere, Cond.instanceMethod yX1_hissThere, Cond.selects RX1 yX1_hissThere yX1_hissThere, Cond.code yX1_hissThere cX1_hissThere 5 (some .int), Cond.methodLink RX1 28 yX1_isAwakeThere, Cond.instanceMethod yX1_isAwakeThere, Cond.selects RX1 yX1_isAwakeThere yX1_isAwakeThere, Cond.code yX1_isAwakeThere cX1_isAwakeThere 3 (some .boolean), Cond.methodLink RX0 104 yX1_enrage, Cond.instanceMethod yX1_enrage, Cond.selects RX1 yX1_enrage yX1_enrage, Cond.code yX1_enrage cX1_enrage 3 none, Cond.methodLink RX1 38 Lib.Math.min.name, Cond.static Lib.Math.min.name, Cond.code Lib.Math.min.name Lib.Math.min.code 2 (some .int), Cond.methodLink RX0 107 yX1_fiercestAwake, Cond.instanceMethod yX1_fiercestAwake, Cond.selects RX1 yX1_fiercestAwake yX1_fiercestAwake, Cond.code yX1_fiercestAwake cX1_fiercestAwake 5 (some .int), Cond.methodLink RX0 110 yX1_hasGoose, Cond.instanceMethod yX1_hasGoose, Cond.selects RX1 yX1_hasGoose yX1_hasGoose]
def wsX3_beatsUntilIn_r6 : List Cond := [Cond.code yX1_hasGoose cX1_hasGoose 2 (some .boolean), Cond.methodLink RX0 113 yX0_payGoose, Cond.instanceMethod yX0_payGoose, Cond.selects RX0 yX0_payGoose yX0_payGoose, Cond.code yX0_payGoose cX0_payGoose 3 none, Cond.methodLink RX0 67 yX1_feed, Cond.instanceMethod yX1_feed, Cond.selects RX1 yX1_feed yX1_feed, Cond.code yX1_feed cX1_feed 2 none, Cond.methodLink RX1 32 Lib.Math.max.name, Cond.static yX3_gradeOfHiss, Cond.code yX3_gradeOfHiss cX3_gradeOfHiss 1 (some .int), Cond.methodLink RX0 120 yX2_fallBack, Cond.instanceMethod yX2_fallBack, Cond.selects RX2 yX2_fallBack yX2_fallBack, Cond.code yX2_fallBack cX2_fallBack 3 none, Cond.methodLink RX2 31 Lib.Math.min.name]
def wsX3_beatsUntilIn : List Cond := .code yX3_beatsUntilIn cX3_beatsUntilIn 2 (some .int) :: ((wsX3_beatsUntilIn_r1 ++ (wsX3_beatsUntilIn_r2 ++ (wsX3_beatsUntilIn_r3 ++ (wsX3_beatsUntilIn_r4 ++ (wsX3_beatsUntilIn_r5 ++ wsX3_beatsUntilIn_r6))))) ++ wsX30 ++ wsX00 ++ wsX20 ++ wsX10 ++ (vx_atS RX3 266 "java/lang/IndexOutOfBoundsException" ["java/lang/RuntimeException", "java/lang/Exception"]).filter goodWord)
def wsX3_inFarmAfter_r1 : List Cond := [Cond.fieldLink RX3 16 "GooseCodex" "trial" "LGooseCodex$Farm;", Cond.fieldLink RX3 10 "GooseCodex" "now" "LGooseCodex$Farm;", Cond.methodLink RX3 113 yX3_isBeats, Cond.static yX3_isBeats, Cond.initialized RX3, Cond.code yX3_isBeats cX3_isBeats 1 (some .boolean), Cond.methodLink RX3 53 yX3_isWithin, Cond.static yX3_isWithin, Cond.code yX3_isWithin cX3_isWithin 3 (some .boolean), Cond.methodLink RX3 23 yX3_demandArgument, Cond.static yX3_demandArgument, Cond.code yX3_demandArgument cX3_demandArgument 1 none, Cond.classLink RX3 269 "java/lang/IllegalArgumentException", Cond.initialized "java/lang/IllegalArgumentException", Cond.methodLink RX3 156 yX0_copyFrom, Cond.instanceMethod yX0_copyFrom, Cond.selects RX0 yX0_copyFrom yX0_copyFrom, Cond.initialized RX0, Cond.code yX0_copyFrom cX0_copyFrom 2 none, Cond.fieldLink RX0 29 "GooseCodex$Farm" "gateCount" "I", Cond.fieldLink RX0 9 "GooseCodex$Farm" "ranks" "[I", Cond.methodLink RX0 126 arraycopyName, Cond.native arraycopyName, Cond.static arraycopyName]
def wsX3_inFarmAfter_r2 : List Cond := [Cond.initialized "java/lang/System", Cond.fieldLink RX0 18 "GooseCodex$Farm" "flock" "LGooseCodex$Flock;", Cond.fieldLink RX0 25 "GooseCodex$Farm" "guests" "LGooseCodex$Guests;", Cond.fieldLink RX0 98 "GooseCodex$Farm" "beat" "I", Cond.fieldLink RX0 71 "GooseCodex$Farm" "bribeCount" "I", Cond.fieldLink RX0 123 "GooseCodex$Farm" "retreatCount" "I", Cond.methodLink RX0 132 yX1_copyFrom, Cond.instanceMethod yX1_copyFrom, Cond.selects RX1 yX1_copyFrom yX1_copyFrom, Cond.initialized RX1, Cond.code yX1_copyFrom cX1_copyFrom 2 none, Cond.fieldLink RX1 24 "GooseCodex$Flock" "count" "I", Cond.fieldLink RX1 9 "GooseCodex$Flock" "gate" "[I", Cond.methodLink RX1 41 arraycopyName, Cond.fieldLink RX1 15 "GooseCodex$Flock" "temper" "[I", Cond.fieldLink RX1 18 "GooseCodex$Flock" "calm" "[I", Cond.fieldLink RX1 21 "GooseCodex$Flock" "eaten" "[I", Cond.methodLink RX0 136 yX2_copyFrom, Cond.instanceMethod yX2_copyFrom, Cond.selects RX2 yX2_copyFrom yX2_copyFrom, Cond.initialized RX2, Cond.code yX2_copyFrom cX2_copyFrom 2 none, Cond.fieldLink RX2 27 "GooseCodex$Guests" "count" "I", Cond.fieldLink RX2 9 "GooseCodex$Guests" "rank" "[I"]
def wsX3_inFarmAfter_r3 : List Cond := [Cond.methodLink RX2 37 arraycopyName, Cond.fieldLink RX2 15 "GooseCodex$Guests" "nerve" "[I", Cond.fieldLink RX2 18 "GooseCodex$Guests" "corns" "[I", Cond.fieldLink RX2 21 "GooseCodex$Guests" "passed" "[I", Cond.fieldLink RX2 24 "GooseCodex$Guests" "retreat" "[I", Cond.methodLink RX3 120 yX0_runBeats, Cond.instanceMethod yX0_runBeats, Cond.selects RX0 yX0_runBeats yX0_runBeats, Cond.code yX0_runBeats cX0_runBeats 3 none, Cond.methodLink RX0 89 yX0_runBeat, Cond.instanceMethod yX0_runBeat, Cond.selects RX0 yX0_runBeat yX0_runBeat, Cond.code yX0_runBeat cX0_runBeat 2 none, Cond.fieldLink RX0 58 "GooseCodex$Guests" "count" "I", Cond.methodLink RX0 92 yX1_wakeByABeat, Cond.instanceMethod yX1_wakeByABeat, Cond.selects RX1 yX1_wakeByABeat yX1_wakeByABeat, Cond.code yX1_wakeByABeat cX1_wakeByABeat 2 none, Cond.methodLink RX0 61 yX0_isBehindAll, Cond.instanceMethod yX0_isBehindAll, Cond.selects RX0 yX0_isBehindAll yX0_isBehindAll, Cond.code yX0_isBehindAll cX0_isBehindAll 2 (some .boolean), Cond.fieldLink RX0 49 "GooseCodex$Guests" "passed" "[I", Cond.methodLink RX0 95 yX0_moveGuest]
def wsX3_inFarmAfter_r4 : List Cond := [Cond.instanceMethod yX0_moveGuest, Cond.selects RX0 yX0_moveGuest yX0_moveGuest, Cond.code yX0_moveGuest cX0_moveGuest 5 none, Cond.fieldLink RX0 101 "GooseCodex$Guests" "retreat" "[I", Cond.fieldLink RX0 52 "GooseCodex$Guests" "rank" "[I", Cond.fieldLink RX0 79 "GooseCodex$Guests" "nerve" "[I", Cond.fieldLink RX0 64 "GooseCodex$Guests" "corns" "[I", Cond.methodLink RX0 55 yX0_gateHiss, Cond.instanceMethod yX0_gateHiss, Cond.selects RX0 yX0_gateHiss yX0_gateHiss, Cond.code yX0_gateHiss cX0_gateHiss 3 (some .int), Cond.methodLink RX0 43 yX0_rankLack, Cond.instanceMethod yX0_rankLack, Cond.selects RX0 yX0_rankLack yX0_rankLack, Cond.code yX0_rankLack cX0_rankLack 3 (some .int), Cond.methodLink RX0 37 Lib.Math.max.name, Cond.static Lib.Math.max.name, Cond.initialized "java/lang/Math", Cond.code Lib.Math.max.name Lib.Math.max.code 2 (some .int), Cond.methodLink RX0 33 yX0_hasGate, Cond.instanceMethod yX0_hasGate, Cond.selects RX0 yX0_hasGate yX0_hasGate, Cond.code yX0_hasGate cX0_hasGate 2 (some .boolean), Cond.methodLink RX0 46 yX1_hissThere]
def wsX3_inFarmAfter_r5 : List Cond := [Cond.instanceMethod yX1_hissThere, Cond.selects RX1 yX1_hissThere yX1_hissThere, Cond.code yX1_hissThere cX1_hissThere 5 (some .int), Cond.methodLink RX1 28 yX1_isAwakeThere, Cond.instanceMethod yX1_isAwakeThere, Cond.selects RX1 yX1_isAwakeThere yX1_isAwakeThere, Cond.code yX1_isAwakeThere cX1_isAwakeThere 3 (some .boolean), Cond.methodLink RX0 104 yX1_enrage, Cond.instanceMethod yX1_enrage, Cond.selects RX1 yX1_enrage yX1_enrage, Cond.code yX1_enrage cX1_enrage 3 none, Cond.methodLink RX1 38 Lib.Math.min.name, Cond.static Lib.Math.min.name, Cond.code Lib.Math.min.name Lib.Math.min.code 2 (some .int), Cond.methodLink RX0 107 yX1_fiercestAwake, Cond.instanceMethod yX1_fiercestAwake, Cond.selects RX1 yX1_fiercestAwake yX1_fiercestAwake, Cond.code yX1_fiercestAwake cX1_fiercestAwake 5 (some .int), Cond.methodLink RX0 110 yX1_hasGoose, Cond.instanceMethod yX1_hasGoose, Cond.selects RX1 yX1_hasGoose yX1_hasGoose, Cond.code yX1_hasGoose cX1_hasGoose 2 (some .boolean), Cond.methodLink RX0 113 yX0_payGoose, Cond.instanceMethod yX0_payGoose]
def wsX3_inFarmAfter_r6 : List Cond := [Cond.selects RX0 yX0_payGoose yX0_payGoose, Cond.code yX0_payGoose cX0_payGoose 3 none, Cond.methodLink RX0 67 yX1_feed, Cond.instanceMethod yX1_feed, Cond.selects RX1 yX1_feed yX1_feed, Cond.code yX1_feed cX1_feed 2 none, Cond.methodLink RX1 32 Lib.Math.max.name, Cond.static yX3_gradeOfHiss, Cond.code yX3_gradeOfHiss cX3_gradeOfHiss 1 (some .int), Cond.methodLink RX0 120 yX2_fallBack, Cond.instanceMethod yX2_fallBack, Cond.selects RX2 yX2_fallBack yX2_fallBack, Cond.code yX2_fallBack cX2_fallBack 3 none, Cond.methodLink RX2 31 Lib.Math.min.name, Cond.methodLink RX3 116 yX0_countInside, Cond.instanceMethod yX0_countInside, Cond.selects RX0 yX0_countInside yX0_countInside, Cond.code yX0_countInside cX0_countInside 3 (some .int)]
def wsX3_inFarmAfter : List Cond := .code yX3_inFarmAfter cX3_inFarmAfter 2 (some .int) :: ((wsX3_inFarmAfter_r1 ++ (wsX3_inFarmAfter_r2 ++ (wsX3_inFarmAfter_r3 ++ (wsX3_inFarmAfter_r4 ++ (wsX3_inFarmAfter_r5 ++ wsX3_inFarmAfter_r6))))) ++ wsX30 ++ wsX00 ++ wsX10 ++ wsX20 ++ (vx_atS RX3 273 "java/lang/IllegalArgumentException" ["java/lang/RuntimeException", "java/lang/Exception"]).filter goodWord)
def wsX3_cornsWanted_r1 : List Cond := [Cond.fieldLink RX3 16 "GooseCodex" "trial" "LGooseCodex$Farm;", Cond.fieldLink RX3 10 "GooseCodex" "now" "LGooseCodex$Farm;", Cond.fieldLink RX3 31 "GooseCodex$Farm" "guests" "LGooseCodex$Guests;", Cond.fieldLink RX3 89 "GooseCodex$Guests" "corns" "[I", Cond.methodLink RX3 85 yX3_demandVisitor, Cond.instanceMethod yX3_demandVisitor, Cond.selects RX3 yX3_demandVisitor yX3_demandVisitor, Cond.initialized RX3, Cond.code yX3_demandVisitor cX3_demandVisitor 2 none, Cond.methodLink RX3 259 yX2_hasGuest, Cond.instanceMethod yX2_hasGuest, Cond.selects RX2 yX2_hasGuest yX2_hasGuest, Cond.initialized RX2, Cond.code yX2_hasGuest cX2_hasGuest 2 (some .boolean), Cond.fieldLink RX2 27 "GooseCodex$Guests" "count" "I", Cond.methodLink RX3 50 yX3_demandIndex, Cond.static yX3_demandIndex, Cond.code yX3_demandIndex cX3_demandIndex 1 none, Cond.classLink RX3 262 "java/lang/IndexOutOfBoundsException", Cond.initialized "java/lang/IndexOutOfBoundsException", Cond.methodLink RX3 156 yX0_copyFrom, Cond.instanceMethod yX0_copyFrom, Cond.selects RX0 yX0_copyFrom yX0_copyFrom, Cond.initialized RX0]
def wsX3_cornsWanted_r2 : List Cond := [Cond.code yX0_copyFrom cX0_copyFrom 2 none, Cond.fieldLink RX0 29 "GooseCodex$Farm" "gateCount" "I", Cond.fieldLink RX0 9 "GooseCodex$Farm" "ranks" "[I", Cond.methodLink RX0 126 arraycopyName, Cond.native arraycopyName, Cond.static arraycopyName, Cond.initialized "java/lang/System", Cond.fieldLink RX0 18 "GooseCodex$Farm" "flock" "LGooseCodex$Flock;", Cond.fieldLink RX0 25 "GooseCodex$Farm" "guests" "LGooseCodex$Guests;", Cond.fieldLink RX0 98 "GooseCodex$Farm" "beat" "I", Cond.fieldLink RX0 71 "GooseCodex$Farm" "bribeCount" "I", Cond.fieldLink RX0 123 "GooseCodex$Farm" "retreatCount" "I", Cond.methodLink RX0 132 yX1_copyFrom, Cond.instanceMethod yX1_copyFrom, Cond.selects RX1 yX1_copyFrom yX1_copyFrom, Cond.initialized RX1, Cond.code yX1_copyFrom cX1_copyFrom 2 none, Cond.fieldLink RX1 24 "GooseCodex$Flock" "count" "I", Cond.fieldLink RX1 9 "GooseCodex$Flock" "gate" "[I", Cond.methodLink RX1 41 arraycopyName, Cond.fieldLink RX1 15 "GooseCodex$Flock" "temper" "[I", Cond.fieldLink RX1 18 "GooseCodex$Flock" "calm" "[I", Cond.fieldLink RX1 21 "GooseCodex$Flock" "eaten" "[I", Cond.methodLink RX0 136 yX2_copyFrom]
def wsX3_cornsWanted_r3 : List Cond := [Cond.instanceMethod yX2_copyFrom, Cond.selects RX2 yX2_copyFrom yX2_copyFrom, Cond.code yX2_copyFrom cX2_copyFrom 2 none, Cond.fieldLink RX2 9 "GooseCodex$Guests" "rank" "[I", Cond.methodLink RX2 37 arraycopyName, Cond.fieldLink RX2 15 "GooseCodex$Guests" "nerve" "[I", Cond.fieldLink RX2 18 "GooseCodex$Guests" "corns" "[I", Cond.fieldLink RX2 21 "GooseCodex$Guests" "passed" "[I", Cond.fieldLink RX2 24 "GooseCodex$Guests" "retreat" "[I", Cond.methodLink RX3 160 yX0_beatsToFarm, Cond.instanceMethod yX0_beatsToFarm, Cond.selects RX0 yX0_beatsToFarm yX0_beatsToFarm, Cond.code yX0_beatsToFarm cX0_beatsToFarm 4 (some .int), Cond.methodLink RX0 61 yX0_isBehindAll, Cond.instanceMethod yX0_isBehindAll, Cond.selects RX0 yX0_isBehindAll yX0_isBehindAll, Cond.code yX0_isBehindAll cX0_isBehindAll 2 (some .boolean), Cond.fieldLink RX0 49 "GooseCodex$Guests" "passed" "[I", Cond.methodLink RX0 89 yX0_runBeat, Cond.instanceMethod yX0_runBeat, Cond.selects RX0 yX0_runBeat yX0_runBeat, Cond.code yX0_runBeat cX0_runBeat 2 none, Cond.fieldLink RX0 58 "GooseCodex$Guests" "count" "I", Cond.methodLink RX0 92 yX1_wakeByABeat]
def wsX3_cornsWanted_r4 : List Cond := [Cond.instanceMethod yX1_wakeByABeat, Cond.selects RX1 yX1_wakeByABeat yX1_wakeByABeat, Cond.code yX1_wakeByABeat cX1_wakeByABeat 2 none, Cond.methodLink RX0 95 yX0_moveGuest, Cond.instanceMethod yX0_moveGuest, Cond.selects RX0 yX0_moveGuest yX0_moveGuest, Cond.code yX0_moveGuest cX0_moveGuest 5 none, Cond.fieldLink RX0 101 "GooseCodex$Guests" "retreat" "[I", Cond.fieldLink RX0 52 "GooseCodex$Guests" "rank" "[I", Cond.fieldLink RX0 79 "GooseCodex$Guests" "nerve" "[I", Cond.fieldLink RX0 64 "GooseCodex$Guests" "corns" "[I", Cond.methodLink RX0 55 yX0_gateHiss, Cond.instanceMethod yX0_gateHiss, Cond.selects RX0 yX0_gateHiss yX0_gateHiss, Cond.code yX0_gateHiss cX0_gateHiss 3 (some .int), Cond.methodLink RX0 43 yX0_rankLack, Cond.instanceMethod yX0_rankLack, Cond.selects RX0 yX0_rankLack yX0_rankLack, Cond.code yX0_rankLack cX0_rankLack 3 (some .int), Cond.methodLink RX0 37 Lib.Math.max.name, Cond.static Lib.Math.max.name, Cond.initialized "java/lang/Math", Cond.code Lib.Math.max.name Lib.Math.max.code 2 (some .int), Cond.methodLink RX0 33 yX0_hasGate]
def wsX3_cornsWanted_r5 : List Cond := [Cond.instanceMethod yX0_hasGate, Cond.selects RX0 yX0_hasGate yX0_hasGate, Cond.code yX0_hasGate cX0_hasGate 2 (some .boolean), Cond.methodLink RX0 46 yX1_hissThere, Cond.instanceMethod yX1_hissThere, Cond.selects RX1 yX1_hissThere yX1_hissThere, Cond.code yX1_hissThere cX1_hissThere 5 (some .int), Cond.methodLink RX1 28 yX1_isAwakeThere, Cond.instanceMethod yX1_isAwakeThere, Cond.selects RX1 yX1_isAwakeThere yX1_isAwakeThere, Cond.code yX1_isAwakeThere cX1_isAwakeThere 3 (some .boolean), Cond.methodLink RX0 104 yX1_enrage, Cond.instanceMethod yX1_enrage, Cond.selects RX1 yX1_enrage yX1_enrage, Cond.code yX1_enrage cX1_enrage 3 none, Cond.methodLink RX1 38 Lib.Math.min.name, Cond.static Lib.Math.min.name, Cond.code Lib.Math.min.name Lib.Math.min.code 2 (some .int), Cond.methodLink RX0 107 yX1_fiercestAwake, Cond.instanceMethod yX1_fiercestAwake, Cond.selects RX1 yX1_fiercestAwake yX1_fiercestAwake, Cond.code yX1_fiercestAwake cX1_fiercestAwake 5 (some .int), Cond.methodLink RX0 110 yX1_hasGoose, Cond.instanceMethod yX1_hasGoose]
def wsX3_cornsWanted_r6 : List Cond := [Cond.selects RX1 yX1_hasGoose yX1_hasGoose, Cond.code yX1_hasGoose cX1_hasGoose 2 (some .boolean), Cond.methodLink RX0 113 yX0_payGoose, Cond.instanceMethod yX0_payGoose, Cond.selects RX0 yX0_payGoose yX0_payGoose, Cond.code yX0_payGoose cX0_payGoose 3 none, Cond.methodLink RX0 67 yX1_feed, Cond.instanceMethod yX1_feed, Cond.selects RX1 yX1_feed yX1_feed, Cond.code yX1_feed cX1_feed 2 none, Cond.methodLink RX1 32 Lib.Math.max.name, Cond.static yX3_gradeOfHiss, Cond.code yX3_gradeOfHiss cX3_gradeOfHiss 1 (some .int), Cond.methodLink RX0 120 yX2_fallBack, Cond.instanceMethod yX2_fallBack, Cond.selects RX2 yX2_fallBack yX2_fallBack, Cond.code yX2_fallBack cX2_fallBack 3 none, Cond.methodLink RX2 31 Lib.Math.min.name]
def wsX3_cornsWanted : List Cond := .code yX3_cornsWanted cX3_cornsWanted 3 (some .int) :: ((wsX3_cornsWanted_r1 ++ (wsX3_cornsWanted_r2 ++ (wsX3_cornsWanted_r3 ++ (wsX3_cornsWanted_r4 ++ (wsX3_cornsWanted_r5 ++ wsX3_cornsWanted_r6))))) ++ wsX30 ++ wsX00 ++ wsX20 ++ wsX10 ++ (vx_atS RX3 266 "java/lang/IndexOutOfBoundsException" ["java/lang/RuntimeException", "java/lang/Exception"]).filter goodWord)
def wsX3_bestToBribe_r1 : List Cond := [Cond.fieldLink RX3 10 "GooseCodex" "now" "LGooseCodex$Farm;", Cond.fieldLink RX3 57 "GooseCodex$Farm" "flock" "LGooseCodex$Flock;", Cond.fieldLink RX3 31 "GooseCodex$Farm" "guests" "LGooseCodex$Guests;", Cond.fieldLink RX3 103 "GooseCodex$Guests" "passed" "[I", Cond.methodLink RX3 85 yX3_demandVisitor, Cond.instanceMethod yX3_demandVisitor, Cond.selects RX3 yX3_demandVisitor yX3_demandVisitor, Cond.initialized RX3, Cond.code yX3_demandVisitor cX3_demandVisitor 2 none, Cond.methodLink RX3 259 yX2_hasGuest, Cond.instanceMethod yX2_hasGuest, Cond.selects RX2 yX2_hasGuest yX2_hasGuest, Cond.initialized RX2, Cond.code yX2_hasGuest cX2_hasGuest 2 (some .boolean), Cond.fieldLink RX2 27 "GooseCodex$Guests" "count" "I", Cond.methodLink RX3 50 yX3_demandIndex, Cond.static yX3_demandIndex, Cond.code yX3_demandIndex cX3_demandIndex 1 none, Cond.classLink RX3 262 "java/lang/IndexOutOfBoundsException", Cond.initialized "java/lang/IndexOutOfBoundsException", Cond.methodLink RX3 163 yX1_fiercestAwake, Cond.instanceMethod yX1_fiercestAwake, Cond.selects RX1 yX1_fiercestAwake yX1_fiercestAwake, Cond.initialized RX1]
def wsX3_bestToBribe_r2 : List Cond := [Cond.code yX1_fiercestAwake cX1_fiercestAwake 5 (some .int), Cond.fieldLink RX1 24 "GooseCodex$Flock" "count" "I", Cond.fieldLink RX1 15 "GooseCodex$Flock" "temper" "[I", Cond.methodLink RX1 28 yX1_isAwakeThere, Cond.instanceMethod yX1_isAwakeThere, Cond.selects RX1 yX1_isAwakeThere yX1_isAwakeThere, Cond.code yX1_isAwakeThere cX1_isAwakeThere 3 (some .boolean), Cond.fieldLink RX1 9 "GooseCodex$Flock" "gate" "[I", Cond.fieldLink RX1 18 "GooseCodex$Flock" "calm" "[I"]
def wsX3_bestToBribe : List Cond := .code yX3_bestToBribe cX3_bestToBribe 2 (some .int) :: ((wsX3_bestToBribe_r1 ++ wsX3_bestToBribe_r2) ++ wsX30 ++ wsX00 ++ wsX20 ++ wsX10 ++ (vx_atS RX3 266 "java/lang/IndexOutOfBoundsException" ["java/lang/RuntimeException", "java/lang/Exception"]).filter goodWord)
def wsX3_bribesWanted_r1 : List Cond := [Cond.fieldLink RX3 10 "GooseCodex" "now" "LGooseCodex$Farm;", Cond.methodLink RX3 85 yX3_demandVisitor, Cond.instanceMethod yX3_demandVisitor, Cond.selects RX3 yX3_demandVisitor yX3_demandVisitor, Cond.initialized RX3, Cond.code yX3_demandVisitor cX3_demandVisitor 2 none, Cond.fieldLink RX3 31 "GooseCodex$Farm" "guests" "LGooseCodex$Guests;", Cond.methodLink RX3 259 yX2_hasGuest, Cond.instanceMethod yX2_hasGuest, Cond.selects RX2 yX2_hasGuest yX2_hasGuest, Cond.initialized RX2, Cond.code yX2_hasGuest cX2_hasGuest 2 (some .boolean), Cond.fieldLink RX2 27 "GooseCodex$Guests" "count" "I", Cond.methodLink RX3 50 yX3_demandIndex, Cond.static yX3_demandIndex, Cond.code yX3_demandIndex cX3_demandIndex 1 none, Cond.classLink RX3 262 "java/lang/IndexOutOfBoundsException", Cond.initialized "java/lang/IndexOutOfBoundsException", Cond.methodLink RX3 166 yX0_fewestToCalm, Cond.instanceMethod yX0_fewestToCalm, Cond.selects RX0 yX0_fewestToCalm yX0_fewestToCalm, Cond.initialized RX0, Cond.code yX0_fewestToCalm cX0_fewestToCalm 8 (some .int), Cond.fieldLink RX0 25 "GooseCodex$Farm" "guests" "LGooseCodex$Guests;"]
def wsX3_bribesWanted_r2 : List Cond := [Cond.fieldLink RX0 49 "GooseCodex$Guests" "passed" "[I", Cond.fieldLink RX0 52 "GooseCodex$Guests" "rank" "[I", Cond.fieldLink RX0 18 "GooseCodex$Farm" "flock" "LGooseCodex$Flock;", Cond.fieldLink RX0 78 "GooseCodex$Flock" "count" "I", Cond.fieldLink RX0 79 "GooseCodex$Guests" "nerve" "[I", Cond.fieldLink RX0 82 "GooseCodex$Flock" "temper" "[I", Cond.methodLink RX0 43 yX0_rankLack, Cond.instanceMethod yX0_rankLack, Cond.selects RX0 yX0_rankLack yX0_rankLack, Cond.code yX0_rankLack cX0_rankLack 3 (some .int), Cond.fieldLink RX0 9 "GooseCodex$Farm" "ranks" "[I", Cond.methodLink RX0 37 Lib.Math.max.name, Cond.static Lib.Math.max.name, Cond.initialized "java/lang/Math", Cond.code Lib.Math.max.name Lib.Math.max.code 2 (some .int), Cond.methodLink RX0 33 yX0_hasGate, Cond.instanceMethod yX0_hasGate, Cond.selects RX0 yX0_hasGate yX0_hasGate, Cond.code yX0_hasGate cX0_hasGate 2 (some .boolean), Cond.fieldLink RX0 29 "GooseCodex$Farm" "gateCount" "I", Cond.methodLink RX0 74 yX0_guestHiss, Cond.instanceMethod yX0_guestHiss, Cond.selects RX0 yX0_guestHiss yX0_guestHiss, Cond.code yX0_guestHiss cX0_guestHiss 2 (some .int)]
def wsX3_bribesWanted_r3 : List Cond := [Cond.methodLink RX0 55 yX0_gateHiss, Cond.instanceMethod yX0_gateHiss, Cond.selects RX0 yX0_gateHiss yX0_gateHiss, Cond.code yX0_gateHiss cX0_gateHiss 3 (some .int), Cond.methodLink RX0 46 yX1_hissThere, Cond.instanceMethod yX1_hissThere, Cond.selects RX1 yX1_hissThere yX1_hissThere, Cond.initialized RX1, Cond.code yX1_hissThere cX1_hissThere 5 (some .int), Cond.fieldLink RX1 24 "GooseCodex$Flock" "count" "I", Cond.fieldLink RX1 15 "GooseCodex$Flock" "temper" "[I", Cond.methodLink RX1 28 yX1_isAwakeThere, Cond.instanceMethod yX1_isAwakeThere, Cond.selects RX1 yX1_isAwakeThere yX1_isAwakeThere, Cond.code yX1_isAwakeThere cX1_isAwakeThere 3 (some .boolean), Cond.fieldLink RX1 9 "GooseCodex$Flock" "gate" "[I", Cond.fieldLink RX1 18 "GooseCodex$Flock" "calm" "[I", Cond.methodLink RX0 85 yX1_isAwakeThere]
def wsX3_bribesWanted : List Cond := .code yX3_bribesWanted cX3_bribesWanted 2 (some .int) :: ((wsX3_bribesWanted_r1 ++ (wsX3_bribesWanted_r2 ++ wsX3_bribesWanted_r3)) ++ wsX30 ++ wsX00 ++ wsX20 ++ wsX10 ++ (vx_atS RX3 266 "java/lang/IndexOutOfBoundsException" ["java/lang/RuntimeException", "java/lang/Exception"]).filter goodWord)
def wsX3_rankWanted_r1 : List Cond := [Cond.fieldLink RX3 10 "GooseCodex" "now" "LGooseCodex$Farm;", Cond.fieldLink RX3 31 "GooseCodex$Farm" "guests" "LGooseCodex$Guests;", Cond.fieldLink RX3 103 "GooseCodex$Guests" "passed" "[I", Cond.fieldLink RX3 144 "GooseCodex$Guests" "nerve" "[I", Cond.methodLink RX3 85 yX3_demandVisitor, Cond.instanceMethod yX3_demandVisitor, Cond.selects RX3 yX3_demandVisitor yX3_demandVisitor, Cond.initialized RX3, Cond.code yX3_demandVisitor cX3_demandVisitor 2 none, Cond.methodLink RX3 259 yX2_hasGuest, Cond.instanceMethod yX2_hasGuest, Cond.selects RX2 yX2_hasGuest yX2_hasGuest, Cond.initialized RX2, Cond.code yX2_hasGuest cX2_hasGuest 2 (some .boolean), Cond.fieldLink RX2 27 "GooseCodex$Guests" "count" "I", Cond.methodLink RX3 50 yX3_demandIndex, Cond.static yX3_demandIndex, Cond.code yX3_demandIndex cX3_demandIndex 1 none, Cond.classLink RX3 262 "java/lang/IndexOutOfBoundsException", Cond.initialized "java/lang/IndexOutOfBoundsException", Cond.methodLink RX3 135 yX0_gateHiss, Cond.instanceMethod yX0_gateHiss, Cond.selects RX0 yX0_gateHiss yX0_gateHiss, Cond.initialized RX0]
def wsX3_rankWanted_r2 : List Cond := [Cond.code yX0_gateHiss cX0_gateHiss 3 (some .int), Cond.fieldLink RX0 18 "GooseCodex$Farm" "flock" "LGooseCodex$Flock;", Cond.methodLink RX0 43 yX0_rankLack, Cond.instanceMethod yX0_rankLack, Cond.selects RX0 yX0_rankLack yX0_rankLack, Cond.code yX0_rankLack cX0_rankLack 3 (some .int), Cond.fieldLink RX0 9 "GooseCodex$Farm" "ranks" "[I", Cond.methodLink RX0 37 Lib.Math.max.name, Cond.static Lib.Math.max.name, Cond.initialized "java/lang/Math", Cond.code Lib.Math.max.name Lib.Math.max.code 2 (some .int), Cond.methodLink RX0 33 yX0_hasGate, Cond.instanceMethod yX0_hasGate, Cond.selects RX0 yX0_hasGate yX0_hasGate, Cond.code yX0_hasGate cX0_hasGate 2 (some .boolean), Cond.fieldLink RX0 29 "GooseCodex$Farm" "gateCount" "I", Cond.methodLink RX0 46 yX1_hissThere, Cond.instanceMethod yX1_hissThere, Cond.selects RX1 yX1_hissThere yX1_hissThere, Cond.initialized RX1, Cond.code yX1_hissThere cX1_hissThere 5 (some .int), Cond.fieldLink RX1 24 "GooseCodex$Flock" "count" "I", Cond.fieldLink RX1 15 "GooseCodex$Flock" "temper" "[I", Cond.methodLink RX1 28 yX1_isAwakeThere]
def wsX3_rankWanted_r3 : List Cond := [Cond.instanceMethod yX1_isAwakeThere, Cond.selects RX1 yX1_isAwakeThere yX1_isAwakeThere, Cond.code yX1_isAwakeThere cX1_isAwakeThere 3 (some .boolean), Cond.fieldLink RX1 9 "GooseCodex$Flock" "gate" "[I", Cond.fieldLink RX1 18 "GooseCodex$Flock" "calm" "[I"]
def wsX3_rankWanted : List Cond := .code yX3_rankWanted cX3_rankWanted 4 (some .int) :: ((wsX3_rankWanted_r1 ++ (wsX3_rankWanted_r2 ++ wsX3_rankWanted_r3)) ++ wsX30 ++ wsX00 ++ wsX20 ++ wsX10 ++ (vx_atS RX3 266 "java/lang/IndexOutOfBoundsException" ["java/lang/RuntimeException", "java/lang/Exception"]).filter goodWord)
def wsX3_firstBar_r1 : List Cond := [Cond.fieldLink RX3 10 "GooseCodex" "now" "LGooseCodex$Farm;", Cond.fieldLink RX3 27 "GooseCodex$Farm" "gateCount" "I", Cond.methodLink RX3 19 yX3_isRank, Cond.static yX3_isRank, Cond.initialized RX3, Cond.code yX3_isRank cX3_isRank 1 (some .boolean), Cond.methodLink RX3 53 yX3_isWithin, Cond.static yX3_isWithin, Cond.code yX3_isWithin cX3_isWithin 3 (some .boolean), Cond.methodLink RX3 68 yX3_isNerve, Cond.static yX3_isNerve, Cond.code yX3_isNerve cX3_isNerve 1 (some .boolean), Cond.methodLink RX3 23 yX3_demandArgument, Cond.static yX3_demandArgument, Cond.code yX3_demandArgument cX3_demandArgument 1 none, Cond.classLink RX3 269 "java/lang/IllegalArgumentException", Cond.initialized "java/lang/IllegalArgumentException", Cond.methodLink RX3 135 yX0_gateHiss, Cond.instanceMethod yX0_gateHiss, Cond.selects RX0 yX0_gateHiss yX0_gateHiss, Cond.initialized RX0, Cond.code yX0_gateHiss cX0_gateHiss 3 (some .int), Cond.fieldLink RX0 18 "GooseCodex$Farm" "flock" "LGooseCodex$Flock;", Cond.methodLink RX0 43 yX0_rankLack]
def wsX3_firstBar_r2 : List Cond := [Cond.instanceMethod yX0_rankLack, Cond.selects RX0 yX0_rankLack yX0_rankLack, Cond.code yX0_rankLack cX0_rankLack 3 (some .int), Cond.fieldLink RX0 9 "GooseCodex$Farm" "ranks" "[I", Cond.methodLink RX0 37 Lib.Math.max.name, Cond.static Lib.Math.max.name, Cond.initialized "java/lang/Math", Cond.code Lib.Math.max.name Lib.Math.max.code 2 (some .int), Cond.methodLink RX0 33 yX0_hasGate, Cond.instanceMethod yX0_hasGate, Cond.selects RX0 yX0_hasGate yX0_hasGate, Cond.code yX0_hasGate cX0_hasGate 2 (some .boolean), Cond.fieldLink RX0 29 "GooseCodex$Farm" "gateCount" "I", Cond.methodLink RX0 46 yX1_hissThere, Cond.instanceMethod yX1_hissThere, Cond.selects RX1 yX1_hissThere yX1_hissThere, Cond.initialized RX1, Cond.code yX1_hissThere cX1_hissThere 5 (some .int), Cond.fieldLink RX1 24 "GooseCodex$Flock" "count" "I", Cond.fieldLink RX1 15 "GooseCodex$Flock" "temper" "[I", Cond.methodLink RX1 28 yX1_isAwakeThere, Cond.instanceMethod yX1_isAwakeThere, Cond.selects RX1 yX1_isAwakeThere yX1_isAwakeThere, Cond.code yX1_isAwakeThere cX1_isAwakeThere 3 (some .boolean)]
def wsX3_firstBar_r3 : List Cond := [Cond.fieldLink RX1 9 "GooseCodex$Flock" "gate" "[I", Cond.fieldLink RX1 18 "GooseCodex$Flock" "calm" "[I"]
def wsX3_firstBar : List Cond := .code yX3_firstBar cX3_firstBar 4 (some .int) :: ((wsX3_firstBar_r1 ++ (wsX3_firstBar_r2 ++ wsX3_firstBar_r3)) ++ wsX30 ++ wsX00 ++ wsX10 ++ (vx_atS RX3 273 "java/lang/IllegalArgumentException" ["java/lang/RuntimeException", "java/lang/Exception"]).filter goodWord)
def wsX3_meanTemper : List Cond := .code yX3_meanTemper cX3_meanTemper 2 (some .double) :: ([.fieldLink RX3 10 "GooseCodex" "now" "LGooseCodex$Farm;", .fieldLink RX3 57 "GooseCodex$Farm" "flock" "LGooseCodex$Flock;", .fieldLink RX3 61 "GooseCodex$Flock" "count" "I", .methodLink RX3 169 yX1_sumOfTempers, .instanceMethod yX1_sumOfTempers, .selects RX1 yX1_sumOfTempers yX1_sumOfTempers, .initialized RX1, .code yX1_sumOfTempers cX1_sumOfTempers 3 (some .int), .fieldLink RX1 24 "GooseCodex$Flock" "count" "I", .fieldLink RX1 15 "GooseCodex$Flock" "temper" "[I"] ++ wsX30 ++ wsX00 ++ wsX10)
def wsX3_mix : List Cond := .code yX3_mix cX3_mix 4 (some .long) :: ([.constantLong RX3 257 (31)])
def wsX3_mixGates_r1 : List Cond := [Cond.fieldLink RX3 10 "GooseCodex" "now" "LGooseCodex$Farm;", Cond.fieldLink RX3 27 "GooseCodex$Farm" "gateCount" "I", Cond.methodLink RX3 239 yX3_rankOf, Cond.instanceMethod yX3_rankOf, Cond.selects RX3 yX3_rankOf yX3_rankOf, Cond.initialized RX3, Cond.code yX3_rankOf cX3_rankOf 2 (some .int), Cond.fieldLink RX3 75 "GooseCodex$Farm" "ranks" "[I", Cond.methodLink RX3 47 yX0_hasGate, Cond.instanceMethod yX0_hasGate, Cond.selects RX0 yX0_hasGate yX0_hasGate, Cond.initialized RX0, Cond.code yX0_hasGate cX0_hasGate 2 (some .boolean), Cond.fieldLink RX0 29 "GooseCodex$Farm" "gateCount" "I", Cond.methodLink RX3 50 yX3_demandIndex, Cond.static yX3_demandIndex, Cond.code yX3_demandIndex cX3_demandIndex 1 none, Cond.classLink RX3 262 "java/lang/IndexOutOfBoundsException", Cond.initialized "java/lang/IndexOutOfBoundsException", Cond.methodLink RX3 177 yX3_mix, Cond.static yX3_mix, Cond.code yX3_mix cX3_mix 4 (some .long), Cond.constantLong RX3 257 (31), Cond.methodLink RX3 242 yX3_awakeAt]
def wsX3_mixGates_r2 : List Cond := [Cond.instanceMethod yX3_awakeAt, Cond.selects RX3 yX3_awakeAt yX3_awakeAt, Cond.code yX3_awakeAt cX3_awakeAt 2 (some .int), Cond.fieldLink RX3 57 "GooseCodex$Farm" "flock" "LGooseCodex$Flock;", Cond.methodLink RX3 132 yX1_countAwake, Cond.instanceMethod yX1_countAwake, Cond.selects RX1 yX1_countAwake yX1_countAwake, Cond.initialized RX1, Cond.code yX1_countAwake cX1_countAwake 4 (some .int), Cond.fieldLink RX1 24 "GooseCodex$Flock" "count" "I", Cond.methodLink RX1 28 yX1_isAwakeThere, Cond.instanceMethod yX1_isAwakeThere, Cond.selects RX1 yX1_isAwakeThere yX1_isAwakeThere, Cond.code yX1_isAwakeThere cX1_isAwakeThere 3 (some .boolean), Cond.fieldLink RX1 9 "GooseCodex$Flock" "gate" "[I", Cond.fieldLink RX1 18 "GooseCodex$Flock" "calm" "[I"]
def wsX3_mixGates : List Cond := .code yX3_mixGates cX3_mixGates 6 (some .long) :: ((wsX3_mixGates_r1 ++ wsX3_mixGates_r2) ++ wsX30 ++ wsX00 ++ wsX10 ++ (vx_atS RX3 266 "java/lang/IndexOutOfBoundsException" ["java/lang/RuntimeException", "java/lang/Exception"]).filter goodWord)
def wsX3_mixGeese_r1 : List Cond := [Cond.fieldLink RX3 10 "GooseCodex" "now" "LGooseCodex$Farm;", Cond.fieldLink RX3 57 "GooseCodex$Farm" "flock" "LGooseCodex$Flock;", Cond.fieldLink RX3 61 "GooseCodex$Flock" "count" "I", Cond.methodLink RX3 245 yX3_gateOf, Cond.instanceMethod yX3_gateOf, Cond.selects RX3 yX3_gateOf yX3_gateOf, Cond.initialized RX3, Cond.code yX3_gateOf cX3_gateOf 2 (some .int), Cond.fieldLink RX3 82 "GooseCodex$Flock" "gate" "[I", Cond.methodLink RX3 97 yX3_demandGoose, Cond.instanceMethod yX3_demandGoose, Cond.selects RX3 yX3_demandGoose yX3_demandGoose, Cond.code yX3_demandGoose cX3_demandGoose 2 none, Cond.methodLink RX3 79 yX1_hasGoose, Cond.instanceMethod yX1_hasGoose, Cond.selects RX1 yX1_hasGoose yX1_hasGoose, Cond.initialized RX1, Cond.code yX1_hasGoose cX1_hasGoose 2 (some .boolean), Cond.fieldLink RX1 24 "GooseCodex$Flock" "count" "I", Cond.methodLink RX3 50 yX3_demandIndex, Cond.static yX3_demandIndex, Cond.code yX3_demandIndex cX3_demandIndex 1 none, Cond.classLink RX3 262 "java/lang/IndexOutOfBoundsException", Cond.initialized "java/lang/IndexOutOfBoundsException"]
def wsX3_mixGeese_r2 : List Cond := [Cond.methodLink RX3 177 yX3_mix, Cond.static yX3_mix, Cond.code yX3_mix cX3_mix 4 (some .long), Cond.constantLong RX3 257 (31), Cond.methodLink RX3 248 yX3_temperOf, Cond.instanceMethod yX3_temperOf, Cond.selects RX3 yX3_temperOf yX3_temperOf, Cond.code yX3_temperOf cX3_temperOf 2 (some .int), Cond.fieldLink RX3 110 "GooseCodex$Flock" "temper" "[I", Cond.methodLink RX3 251 yX3_calmFor, Cond.instanceMethod yX3_calmFor, Cond.selects RX3 yX3_calmFor yX3_calmFor, Cond.code yX3_calmFor cX3_calmFor 2 (some .int), Cond.fieldLink RX3 138 "GooseCodex$Flock" "calm" "[I", Cond.methodLink RX3 254 yX3_eatenBy, Cond.instanceMethod yX3_eatenBy, Cond.selects RX3 yX3_eatenBy yX3_eatenBy, Cond.code yX3_eatenBy cX3_eatenBy 2 (some .int), Cond.fieldLink RX3 141 "GooseCodex$Flock" "eaten" "[I"]
def wsX3_mixGeese : List Cond := .code yX3_mixGeese cX3_mixGeese 6 (some .long) :: ((wsX3_mixGeese_r1 ++ wsX3_mixGeese_r2) ++ wsX30 ++ wsX00 ++ wsX10 ++ (vx_atS RX3 266 "java/lang/IndexOutOfBoundsException" ["java/lang/RuntimeException", "java/lang/Exception"]).filter goodWord)
def wsX3_digest_r1 : List Cond := [Cond.constantLong RX3 172 (1973), Cond.fieldLink RX3 10 "GooseCodex" "now" "LGooseCodex$Farm;", Cond.fieldLink RX3 31 "GooseCodex$Farm" "guests" "LGooseCodex$Guests;", Cond.fieldLink RX3 35 "GooseCodex$Guests" "count" "I", Cond.methodLink RX3 174 yX3_beats, Cond.instanceMethod yX3_beats, Cond.selects RX3 yX3_beats yX3_beats, Cond.initialized RX3, Cond.code yX3_beats cX3_beats 1 (some .int), Cond.fieldLink RX3 123 "GooseCodex$Farm" "beat" "I", Cond.methodLink RX3 177 yX3_mix, Cond.static yX3_mix, Cond.code yX3_mix cX3_mix 4 (some .long), Cond.constantLong RX3 257 (31), Cond.methodLink RX3 181 yX3_gates, Cond.instanceMethod yX3_gates, Cond.selects RX3 yX3_gates yX3_gates, Cond.code yX3_gates cX3_gates 1 (some .int), Cond.fieldLink RX3 27 "GooseCodex$Farm" "gateCount" "I", Cond.methodLink RX3 184 yX3_geese, Cond.instanceMethod yX3_geese, Cond.selects RX3 yX3_geese yX3_geese, Cond.code yX3_geese cX3_geese 1 (some .int), Cond.fieldLink RX3 57 "GooseCodex$Farm" "flock" "LGooseCodex$Flock;"]
def wsX3_digest_r2 : List Cond := [Cond.fieldLink RX3 61 "GooseCodex$Flock" "count" "I", Cond.methodLink RX3 187 yX3_visitors, Cond.instanceMethod yX3_visitors, Cond.selects RX3 yX3_visitors yX3_visitors, Cond.code yX3_visitors cX3_visitors 1 (some .int), Cond.methodLink RX3 190 yX3_inFarm, Cond.instanceMethod yX3_inFarm, Cond.selects RX3 yX3_inFarm yX3_inFarm, Cond.code yX3_inFarm cX3_inFarm 1 (some .int), Cond.methodLink RX3 116 yX0_countInside, Cond.instanceMethod yX0_countInside, Cond.selects RX0 yX0_countInside yX0_countInside, Cond.initialized RX0, Cond.code yX0_countInside cX0_countInside 3 (some .int), Cond.fieldLink RX0 25 "GooseCodex$Farm" "guests" "LGooseCodex$Guests;", Cond.fieldLink RX0 58 "GooseCodex$Guests" "count" "I", Cond.methodLink RX0 61 yX0_isBehindAll, Cond.instanceMethod yX0_isBehindAll, Cond.selects RX0 yX0_isBehindAll yX0_isBehindAll, Cond.code yX0_isBehindAll cX0_isBehindAll 2 (some .boolean), Cond.fieldLink RX0 49 "GooseCodex$Guests" "passed" "[I", Cond.fieldLink RX0 29 "GooseCodex$Farm" "gateCount" "I", Cond.methodLink RX3 193 yX3_bribes, Cond.instanceMethod yX3_bribes]
def wsX3_digest_r3 : List Cond := [Cond.selects RX3 yX3_bribes yX3_bribes, Cond.code yX3_bribes cX3_bribes 1 (some .int), Cond.fieldLink RX3 126 "GooseCodex$Farm" "bribeCount" "I", Cond.methodLink RX3 196 yX3_retreats, Cond.instanceMethod yX3_retreats, Cond.selects RX3 yX3_retreats yX3_retreats, Cond.code yX3_retreats cX3_retreats 1 (some .int), Cond.fieldLink RX3 129 "GooseCodex$Farm" "retreatCount" "I", Cond.methodLink RX3 199 yX3_loudestGate, Cond.instanceMethod yX3_loudestGate, Cond.selects RX3 yX3_loudestGate yX3_loudestGate, Cond.code yX3_loudestGate cX3_loudestGate 5 (some .int), Cond.methodLink RX3 135 yX0_gateHiss, Cond.instanceMethod yX0_gateHiss, Cond.selects RX0 yX0_gateHiss yX0_gateHiss, Cond.code yX0_gateHiss cX0_gateHiss 3 (some .int), Cond.fieldLink RX0 18 "GooseCodex$Farm" "flock" "LGooseCodex$Flock;", Cond.methodLink RX0 43 yX0_rankLack, Cond.instanceMethod yX0_rankLack, Cond.selects RX0 yX0_rankLack yX0_rankLack, Cond.code yX0_rankLack cX0_rankLack 3 (some .int), Cond.fieldLink RX0 9 "GooseCodex$Farm" "ranks" "[I", Cond.methodLink RX0 37 Lib.Math.max.name, Cond.static Lib.Math.max.name]
def wsX3_digest_r4 : List Cond := [Cond.initialized "java/lang/Math", Cond.code Lib.Math.max.name Lib.Math.max.code 2 (some .int), Cond.methodLink RX0 33 yX0_hasGate, Cond.instanceMethod yX0_hasGate, Cond.selects RX0 yX0_hasGate yX0_hasGate, Cond.code yX0_hasGate cX0_hasGate 2 (some .boolean), Cond.methodLink RX0 46 yX1_hissThere, Cond.instanceMethod yX1_hissThere, Cond.selects RX1 yX1_hissThere yX1_hissThere, Cond.initialized RX1, Cond.code yX1_hissThere cX1_hissThere 5 (some .int), Cond.fieldLink RX1 24 "GooseCodex$Flock" "count" "I", Cond.fieldLink RX1 15 "GooseCodex$Flock" "temper" "[I", Cond.methodLink RX1 28 yX1_isAwakeThere, Cond.instanceMethod yX1_isAwakeThere, Cond.selects RX1 yX1_isAwakeThere yX1_isAwakeThere, Cond.code yX1_isAwakeThere cX1_isAwakeThere 3 (some .boolean), Cond.fieldLink RX1 9 "GooseCodex$Flock" "gate" "[I", Cond.fieldLink RX1 18 "GooseCodex$Flock" "calm" "[I", Cond.methodLink RX3 202 yX3_mixGates, Cond.instanceMethod yX3_mixGates, Cond.selects RX3 yX3_mixGates yX3_mixGates, Cond.code yX3_mixGates cX3_mixGates 6 (some .long), Cond.methodLink RX3 239 yX3_rankOf]
def wsX3_digest_r5 : List Cond := [Cond.instanceMethod yX3_rankOf, Cond.selects RX3 yX3_rankOf yX3_rankOf, Cond.code yX3_rankOf cX3_rankOf 2 (some .int), Cond.fieldLink RX3 75 "GooseCodex$Farm" "ranks" "[I", Cond.methodLink RX3 47 yX0_hasGate, Cond.methodLink RX3 50 yX3_demandIndex, Cond.static yX3_demandIndex, Cond.code yX3_demandIndex cX3_demandIndex 1 none, Cond.classLink RX3 262 "java/lang/IndexOutOfBoundsException", Cond.initialized "java/lang/IndexOutOfBoundsException", Cond.methodLink RX3 242 yX3_awakeAt, Cond.instanceMethod yX3_awakeAt, Cond.selects RX3 yX3_awakeAt yX3_awakeAt, Cond.code yX3_awakeAt cX3_awakeAt 2 (some .int), Cond.methodLink RX3 132 yX1_countAwake, Cond.instanceMethod yX1_countAwake, Cond.selects RX1 yX1_countAwake yX1_countAwake, Cond.code yX1_countAwake cX1_countAwake 4 (some .int), Cond.methodLink RX3 206 yX3_mixGeese, Cond.instanceMethod yX3_mixGeese, Cond.selects RX3 yX3_mixGeese yX3_mixGeese, Cond.code yX3_mixGeese cX3_mixGeese 6 (some .long), Cond.methodLink RX3 245 yX3_gateOf, Cond.instanceMethod yX3_gateOf]
def wsX3_digest_r6 : List Cond := [Cond.selects RX3 yX3_gateOf yX3_gateOf, Cond.code yX3_gateOf cX3_gateOf 2 (some .int), Cond.fieldLink RX3 82 "GooseCodex$Flock" "gate" "[I", Cond.methodLink RX3 97 yX3_demandGoose, Cond.instanceMethod yX3_demandGoose, Cond.selects RX3 yX3_demandGoose yX3_demandGoose, Cond.code yX3_demandGoose cX3_demandGoose 2 none, Cond.methodLink RX3 79 yX1_hasGoose, Cond.instanceMethod yX1_hasGoose, Cond.selects RX1 yX1_hasGoose yX1_hasGoose, Cond.code yX1_hasGoose cX1_hasGoose 2 (some .boolean), Cond.methodLink RX3 248 yX3_temperOf, Cond.instanceMethod yX3_temperOf, Cond.selects RX3 yX3_temperOf yX3_temperOf, Cond.code yX3_temperOf cX3_temperOf 2 (some .int), Cond.fieldLink RX3 110 "GooseCodex$Flock" "temper" "[I", Cond.methodLink RX3 251 yX3_calmFor, Cond.instanceMethod yX3_calmFor, Cond.selects RX3 yX3_calmFor yX3_calmFor, Cond.code yX3_calmFor cX3_calmFor 2 (some .int), Cond.fieldLink RX3 138 "GooseCodex$Flock" "calm" "[I", Cond.methodLink RX3 254 yX3_eatenBy, Cond.instanceMethod yX3_eatenBy, Cond.selects RX3 yX3_eatenBy yX3_eatenBy]
def wsX3_digest_r7 : List Cond := [Cond.code yX3_eatenBy cX3_eatenBy 2 (some .int), Cond.fieldLink RX3 141 "GooseCodex$Flock" "eaten" "[I", Cond.methodLink RX3 209 yX3_passedBy, Cond.instanceMethod yX3_passedBy, Cond.selects RX3 yX3_passedBy yX3_passedBy, Cond.code yX3_passedBy cX3_passedBy 2 (some .int), Cond.fieldLink RX3 103 "GooseCodex$Guests" "passed" "[I", Cond.methodLink RX3 85 yX3_demandVisitor, Cond.instanceMethod yX3_demandVisitor, Cond.selects RX3 yX3_demandVisitor yX3_demandVisitor, Cond.code yX3_demandVisitor cX3_demandVisitor 2 none, Cond.methodLink RX3 259 yX2_hasGuest, Cond.instanceMethod yX2_hasGuest, Cond.selects RX2 yX2_hasGuest yX2_hasGuest, Cond.initialized RX2, Cond.code yX2_hasGuest cX2_hasGuest 2 (some .boolean), Cond.fieldLink RX2 27 "GooseCodex$Guests" "count" "I", Cond.methodLink RX3 212 yX3_cornsOf, Cond.instanceMethod yX3_cornsOf, Cond.selects RX3 yX3_cornsOf yX3_cornsOf, Cond.code yX3_cornsOf cX3_cornsOf 2 (some .int), Cond.fieldLink RX3 89 "GooseCodex$Guests" "corns" "[I", Cond.methodLink RX3 215 yX3_nerveOf, Cond.instanceMethod yX3_nerveOf]
def wsX3_digest_r8 : List Cond := [Cond.selects RX3 yX3_nerveOf yX3_nerveOf, Cond.code yX3_nerveOf cX3_nerveOf 2 (some .int), Cond.fieldLink RX3 144 "GooseCodex$Guests" "nerve" "[I", Cond.methodLink RX3 218 yX3_retreatOf, Cond.instanceMethod yX3_retreatOf, Cond.selects RX3 yX3_retreatOf yX3_retreatOf, Cond.code yX3_retreatOf cX3_retreatOf 2 (some .int), Cond.fieldLink RX3 147 "GooseCodex$Guests" "retreat" "[I", Cond.methodLink RX3 221 yX3_hissAt, Cond.instanceMethod yX3_hissAt, Cond.selects RX3 yX3_hissAt yX3_hissAt, Cond.code yX3_hissAt cX3_hissAt 2 (some .int), Cond.methodLink RX3 150 yX0_guestHiss, Cond.instanceMethod yX0_guestHiss, Cond.selects RX0 yX0_guestHiss yX0_guestHiss, Cond.code yX0_guestHiss cX0_guestHiss 2 (some .int), Cond.fieldLink RX0 52 "GooseCodex$Guests" "rank" "[I", Cond.methodLink RX0 55 yX0_gateHiss, Cond.methodLink RX3 224 yX3_dares, Cond.instanceMethod yX3_dares, Cond.selects RX3 yX3_dares yX3_dares, Cond.code yX3_dares cX3_dares 2 (some .boolean), Cond.methodLink RX3 100 yX0_isBehindAll, Cond.methodLink RX3 227 yX3_beatsUntilIn]
def wsX3_digest_r9 : List Cond := [Cond.instanceMethod yX3_beatsUntilIn, Cond.selects RX3 yX3_beatsUntilIn yX3_beatsUntilIn, Cond.code yX3_beatsUntilIn cX3_beatsUntilIn 2 (some .int), Cond.fieldLink RX3 16 "GooseCodex" "trial" "LGooseCodex$Farm;", Cond.methodLink RX3 156 yX0_copyFrom, Cond.instanceMethod yX0_copyFrom, Cond.selects RX0 yX0_copyFrom yX0_copyFrom, Cond.code yX0_copyFrom cX0_copyFrom 2 none, Cond.methodLink RX0 126 arraycopyName, Cond.native arraycopyName, Cond.static arraycopyName, Cond.initialized "java/lang/System", Cond.fieldLink RX0 98 "GooseCodex$Farm" "beat" "I", Cond.fieldLink RX0 71 "GooseCodex$Farm" "bribeCount" "I", Cond.fieldLink RX0 123 "GooseCodex$Farm" "retreatCount" "I", Cond.methodLink RX0 132 yX1_copyFrom, Cond.instanceMethod yX1_copyFrom, Cond.selects RX1 yX1_copyFrom yX1_copyFrom, Cond.code yX1_copyFrom cX1_copyFrom 2 none, Cond.methodLink RX1 41 arraycopyName, Cond.fieldLink RX1 21 "GooseCodex$Flock" "eaten" "[I", Cond.methodLink RX0 136 yX2_copyFrom, Cond.instanceMethod yX2_copyFrom, Cond.selects RX2 yX2_copyFrom yX2_copyFrom]
def wsX3_digest_r10 : List Cond := [Cond.code yX2_copyFrom cX2_copyFrom 2 none, Cond.fieldLink RX2 9 "GooseCodex$Guests" "rank" "[I", Cond.methodLink RX2 37 arraycopyName, Cond.fieldLink RX2 15 "GooseCodex$Guests" "nerve" "[I", Cond.fieldLink RX2 18 "GooseCodex$Guests" "corns" "[I", Cond.fieldLink RX2 21 "GooseCodex$Guests" "passed" "[I", Cond.fieldLink RX2 24 "GooseCodex$Guests" "retreat" "[I", Cond.methodLink RX3 160 yX0_beatsToFarm, Cond.instanceMethod yX0_beatsToFarm, Cond.selects RX0 yX0_beatsToFarm yX0_beatsToFarm, Cond.code yX0_beatsToFarm cX0_beatsToFarm 4 (some .int), Cond.methodLink RX0 89 yX0_runBeat, Cond.instanceMethod yX0_runBeat, Cond.selects RX0 yX0_runBeat yX0_runBeat, Cond.code yX0_runBeat cX0_runBeat 2 none, Cond.methodLink RX0 92 yX1_wakeByABeat, Cond.instanceMethod yX1_wakeByABeat, Cond.selects RX1 yX1_wakeByABeat yX1_wakeByABeat, Cond.code yX1_wakeByABeat cX1_wakeByABeat 2 none, Cond.methodLink RX0 95 yX0_moveGuest, Cond.instanceMethod yX0_moveGuest, Cond.selects RX0 yX0_moveGuest yX0_moveGuest, Cond.code yX0_moveGuest cX0_moveGuest 5 none, Cond.fieldLink RX0 101 "GooseCodex$Guests" "retreat" "[I"]
def wsX3_digest_r11 : List Cond := [Cond.fieldLink RX0 79 "GooseCodex$Guests" "nerve" "[I", Cond.fieldLink RX0 64 "GooseCodex$Guests" "corns" "[I", Cond.methodLink RX0 104 yX1_enrage, Cond.instanceMethod yX1_enrage, Cond.selects RX1 yX1_enrage yX1_enrage, Cond.code yX1_enrage cX1_enrage 3 none, Cond.methodLink RX1 38 Lib.Math.min.name, Cond.static Lib.Math.min.name, Cond.code Lib.Math.min.name Lib.Math.min.code 2 (some .int), Cond.methodLink RX0 107 yX1_fiercestAwake, Cond.instanceMethod yX1_fiercestAwake, Cond.selects RX1 yX1_fiercestAwake yX1_fiercestAwake, Cond.code yX1_fiercestAwake cX1_fiercestAwake 5 (some .int), Cond.methodLink RX0 110 yX1_hasGoose, Cond.methodLink RX0 113 yX0_payGoose, Cond.instanceMethod yX0_payGoose, Cond.selects RX0 yX0_payGoose yX0_payGoose, Cond.code yX0_payGoose cX0_payGoose 3 none, Cond.methodLink RX0 67 yX1_feed, Cond.instanceMethod yX1_feed, Cond.selects RX1 yX1_feed yX1_feed, Cond.code yX1_feed cX1_feed 2 none, Cond.methodLink RX1 32 Lib.Math.max.name, Cond.static yX3_gradeOfHiss]
def wsX3_digest_r12 : List Cond := [Cond.code yX3_gradeOfHiss cX3_gradeOfHiss 1 (some .int), Cond.methodLink RX0 120 yX2_fallBack, Cond.instanceMethod yX2_fallBack, Cond.selects RX2 yX2_fallBack yX2_fallBack, Cond.code yX2_fallBack cX2_fallBack 3 none, Cond.methodLink RX2 31 Lib.Math.min.name, Cond.methodLink RX3 230 yX3_bestToBribe, Cond.instanceMethod yX3_bestToBribe, Cond.selects RX3 yX3_bestToBribe yX3_bestToBribe, Cond.code yX3_bestToBribe cX3_bestToBribe 2 (some .int), Cond.methodLink RX3 163 yX1_fiercestAwake, Cond.methodLink RX3 233 yX3_bribesWanted, Cond.instanceMethod yX3_bribesWanted, Cond.selects RX3 yX3_bribesWanted yX3_bribesWanted, Cond.code yX3_bribesWanted cX3_bribesWanted 2 (some .int), Cond.methodLink RX3 166 yX0_fewestToCalm, Cond.instanceMethod yX0_fewestToCalm, Cond.selects RX0 yX0_fewestToCalm yX0_fewestToCalm, Cond.code yX0_fewestToCalm cX0_fewestToCalm 8 (some .int), Cond.fieldLink RX0 78 "GooseCodex$Flock" "count" "I", Cond.fieldLink RX0 82 "GooseCodex$Flock" "temper" "[I", Cond.methodLink RX0 74 yX0_guestHiss, Cond.methodLink RX0 85 yX1_isAwakeThere, Cond.methodLink RX3 236 yX3_rankWanted]
def wsX3_digest_r13 : List Cond := [Cond.instanceMethod yX3_rankWanted, Cond.selects RX3 yX3_rankWanted yX3_rankWanted, Cond.code yX3_rankWanted cX3_rankWanted 4 (some .int)]
def wsX3_digest : List Cond := .code yX3_digest cX3_digest 4 (some .long) :: ((wsX3_digest_r1 ++ (wsX3_digest_r2 ++ (wsX3_digest_r3 ++ (wsX3_digest_r4 ++ (wsX3_digest_r5 ++ (wsX3_digest_r6 ++ (wsX3_digest_r7 ++ (wsX3_digest_r8 ++ (wsX3_digest_r9 ++ (wsX3_digest_r10 ++ (wsX3_digest_r11 ++ (wsX3_digest_r12 ++ wsX3_digest_r13)))))))))))) ++ wsX30 ++ wsX00 ++ wsX20 ++ wsX10 ++ (vx_atS RX3 266 "java/lang/IndexOutOfBoundsException" ["java/lang/RuntimeException", "java/lang/Exception"]).filter goodWord)
def wsX4_init : List Cond := .code yX4_init cX4_init 1 none :: ([.methodLink RX4 1 objectInit, .instanceMethod objectInit, .code objectInit ⟨#[0xb1]⟩ 1 none, .arrayClass .int, .fieldLink RX4 9 "GooseCodexModel" "rank" "[I", .fieldLink RX4 13 "GooseCodexModel" "keeps" "[I", .fieldLink RX4 16 "GooseCodexModel" "own" "[I", .fieldLink RX4 19 "GooseCodexModel" "now" "[I", .fieldLink RX4 22 "GooseCodexModel" "kept" "[I"] ++ wsX40)
def wsX4_thrown : List Cond := .code yX4_thrown cX4_thrown 1 (some .int) :: ([.fieldLink RX4 25 "GooseCodexModel" "thrown" "I"] ++ wsX40)
def wsX4_fail : List Cond := .code yX4_fail cX4_fail 2 (some .int) :: ([.fieldLink RX4 25 "GooseCodexModel" "thrown" "I"] ++ wsX40)
def wsX4_told : List Cond := .code yX4_told cX4_told 2 (some .int) :: ([.fieldLink RX4 25 "GooseCodexModel" "thrown" "I"] ++ wsX40)
def wsX4_isIn : List Cond := .code yX4_isIn cX4_isIn 3 (some .boolean) :: ([])
def wsX4_isGate : List Cond := .code yX4_isGate cX4_isGate 2 (some .boolean) :: ([.fieldLink RX4 29 "GooseCodexModel" "gates" "I", .methodLink RX4 32 yX4_isIn, .static yX4_isIn, .initialized RX4, .code yX4_isIn cX4_isIn 3 (some .boolean)] ++ wsX40)
def wsX4_isGoose : List Cond := .code yX4_isGoose cX4_isGoose 2 (some .boolean) :: ([.fieldLink RX4 36 "GooseCodexModel" "geese" "I", .methodLink RX4 32 yX4_isIn, .static yX4_isIn, .initialized RX4, .code yX4_isIn cX4_isIn 3 (some .boolean)] ++ wsX40)
def wsX4_isVisitor : List Cond := .code yX4_isVisitor cX4_isVisitor 2 (some .boolean) :: ([.fieldLink RX4 39 "GooseCodexModel" "visitors" "I", .methodLink RX4 32 yX4_isIn, .static yX4_isIn, .initialized RX4, .code yX4_isIn cX4_isIn 3 (some .boolean)] ++ wsX40)
def wsX4_go : List Cond := .code yX4_go cX4_go 3 (some .int) :: ([.fieldLink RX4 19 "GooseCodexModel" "now" "[I"] ++ wsX40)
def wsX4_put : List Cond := .code yX4_put cX4_put 4 none :: ([.fieldLink RX4 19 "GooseCodexModel" "now" "[I"] ++ wsX40)
def wsX4_vi : List Cond := .code yX4_vi cX4_vi 3 (some .int) :: ([.fieldLink RX4 19 "GooseCodexModel" "now" "[I"] ++ wsX40)
def wsX4_let : List Cond := .code yX4_let cX4_let 4 none :: ([.fieldLink RX4 19 "GooseCodexModel" "now" "[I"] ++ wsX40)
def wsX4_keep : List Cond := .code yX4_keep cX4_keep 1 none :: ([.fieldLink RX4 19 "GooseCodexModel" "now" "[I", .fieldLink RX4 22 "GooseCodexModel" "kept" "[I", .methodLink RX4 42 arraycopyName, .native arraycopyName, .static arraycopyName, .initialized "java/lang/System"] ++ wsX40)
def wsX4_bringBack : List Cond := .code yX4_bringBack cX4_bringBack 1 none :: ([.fieldLink RX4 22 "GooseCodexModel" "kept" "[I", .fieldLink RX4 19 "GooseCodexModel" "now" "[I", .methodLink RX4 42 arraycopyName, .native arraycopyName, .static arraycopyName, .initialized "java/lang/System"] ++ wsX40)
def wsX4_isAwake : List Cond := .code yX4_isAwake cX4_isAwake 3 (some .boolean) :: ([.fieldLink RX4 13 "GooseCodexModel" "keeps" "[I", .methodLink RX4 48 yX4_go, .instanceMethod yX4_go, .selects RX4 yX4_go yX4_go, .initialized RX4, .code yX4_go cX4_go 3 (some .int), .fieldLink RX4 19 "GooseCodexModel" "now" "[I"] ++ wsX40)
def wsX4_more : List Cond := .code yX4_more cX4_more 3 (some .int) :: ([.fieldLink RX4 9 "GooseCodexModel" "rank" "[I", .methodLink RX4 52 Lib.Math.max.name, .static Lib.Math.max.name, .initialized "java/lang/Math", .code Lib.Math.max.name Lib.Math.max.code 2 (some .int)] ++ wsX40)
def wsX4_hiss : List Cond := .code yX4_hiss cX4_hiss 5 (some .int) :: ([.fieldLink RX4 36 "GooseCodexModel" "geese" "I", .methodLink RX4 57 yX4_isAwake, .instanceMethod yX4_isAwake, .selects RX4 yX4_isAwake yX4_isAwake, .initialized RX4, .code yX4_isAwake cX4_isAwake 3 (some .boolean), .fieldLink RX4 13 "GooseCodexModel" "keeps" "[I", .methodLink RX4 48 yX4_go, .instanceMethod yX4_go, .selects RX4 yX4_go yX4_go, .code yX4_go cX4_go 3 (some .int), .fieldLink RX4 19 "GooseCodexModel" "now" "[I", .methodLink RX4 61 yX4_more, .instanceMethod yX4_more, .selects RX4 yX4_more yX4_more, .code yX4_more cX4_more 3 (some .int), .fieldLink RX4 9 "GooseCodexModel" "rank" "[I", .methodLink RX4 52 Lib.Math.max.name, .static Lib.Math.max.name, .initialized "java/lang/Math", .code Lib.Math.max.name Lib.Math.max.code 2 (some .int)] ++ wsX40)
def wsX4_isIn_ : List Cond := .code yX4_isIn_ cX4_isIn_ 2 (some .boolean) :: ([.fieldLink RX4 29 "GooseCodexModel" "gates" "I", .methodLink RX4 64 yX4_vi, .instanceMethod yX4_vi, .selects RX4 yX4_vi yX4_vi, .initialized RX4, .code yX4_vi cX4_vi 3 (some .int), .fieldLink RX4 19 "GooseCodexModel" "now" "[I"] ++ wsX40)
def wsX4_hissNow_r1 : List Cond := [Cond.fieldLink RX4 16 "GooseCodexModel" "own" "[I", Cond.methodLink RX4 67 yX4_isIn_, Cond.instanceMethod yX4_isIn_, Cond.selects RX4 yX4_isIn_ yX4_isIn_, Cond.initialized RX4, Cond.code yX4_isIn_ cX4_isIn_ 2 (some .boolean), Cond.fieldLink RX4 29 "GooseCodexModel" "gates" "I", Cond.methodLink RX4 64 yX4_vi, Cond.instanceMethod yX4_vi, Cond.selects RX4 yX4_vi yX4_vi, Cond.code yX4_vi cX4_vi 3 (some .int), Cond.fieldLink RX4 19 "GooseCodexModel" "now" "[I", Cond.methodLink RX4 70 yX4_hiss, Cond.instanceMethod yX4_hiss, Cond.selects RX4 yX4_hiss yX4_hiss, Cond.code yX4_hiss cX4_hiss 5 (some .int), Cond.fieldLink RX4 36 "GooseCodexModel" "geese" "I", Cond.methodLink RX4 57 yX4_isAwake, Cond.instanceMethod yX4_isAwake, Cond.selects RX4 yX4_isAwake yX4_isAwake, Cond.code yX4_isAwake cX4_isAwake 3 (some .boolean), Cond.fieldLink RX4 13 "GooseCodexModel" "keeps" "[I", Cond.methodLink RX4 48 yX4_go, Cond.instanceMethod yX4_go]
def wsX4_hissNow_r2 : List Cond := [Cond.selects RX4 yX4_go yX4_go, Cond.code yX4_go cX4_go 3 (some .int), Cond.methodLink RX4 61 yX4_more, Cond.instanceMethod yX4_more, Cond.selects RX4 yX4_more yX4_more, Cond.code yX4_more cX4_more 3 (some .int), Cond.fieldLink RX4 9 "GooseCodexModel" "rank" "[I", Cond.methodLink RX4 52 Lib.Math.max.name, Cond.static Lib.Math.max.name, Cond.initialized "java/lang/Math", Cond.code Lib.Math.max.name Lib.Math.max.code 2 (some .int)]
def wsX4_hissNow : List Cond := .code yX4_hissNow cX4_hissNow 2 (some .int) :: ((wsX4_hissNow_r1 ++ wsX4_hissNow_r2) ++ wsX40)
def wsX4_grade : List Cond := .code yX4_grade cX4_grade 1 (some .int) :: ([])
def wsX4_angriest : List Cond := .code yX4_angriest cX4_angriest 4 (some .int) :: ([.fieldLink RX4 36 "GooseCodexModel" "geese" "I", .methodLink RX4 57 yX4_isAwake, .instanceMethod yX4_isAwake, .selects RX4 yX4_isAwake yX4_isAwake, .initialized RX4, .code yX4_isAwake cX4_isAwake 3 (some .boolean), .fieldLink RX4 13 "GooseCodexModel" "keeps" "[I", .methodLink RX4 48 yX4_go, .instanceMethod yX4_go, .selects RX4 yX4_go yX4_go, .code yX4_go cX4_go 3 (some .int), .fieldLink RX4 19 "GooseCodexModel" "now" "[I"] ++ wsX40)
def wsX4_feed : List Cond := .code yX4_feed cX4_feed 3 none :: ([.methodLink RX4 52 Lib.Math.max.name, .static Lib.Math.max.name, .initialized "java/lang/Math", .code Lib.Math.max.name Lib.Math.max.code 2 (some .int), .fieldLink RX4 19 "GooseCodexModel" "now" "[I", .methodLink RX4 64 yX4_vi, .instanceMethod yX4_vi, .selects RX4 yX4_vi yX4_vi, .initialized RX4, .code yX4_vi cX4_vi 3 (some .int), .methodLink RX4 73 yX4_let, .instanceMethod yX4_let, .selects RX4 yX4_let yX4_let, .code yX4_let cX4_let 4 none, .methodLink RX4 77 yX4_put, .instanceMethod yX4_put, .selects RX4 yX4_put yX4_put, .code yX4_put cX4_put 4 none, .methodLink RX4 48 yX4_go, .instanceMethod yX4_go, .selects RX4 yX4_go yX4_go, .code yX4_go cX4_go 3 (some .int)] ++ wsX40)
def wsX4_move_r1 : List Cond := [Cond.fieldLink RX4 16 "GooseCodexModel" "own" "[I", Cond.fieldLink RX4 36 "GooseCodexModel" "geese" "I", Cond.methodLink RX4 80 Lib.Math.min.name, Cond.static Lib.Math.min.name, Cond.initialized "java/lang/Math", Cond.code Lib.Math.min.name Lib.Math.min.code 2 (some .int), Cond.methodLink RX4 52 Lib.Math.max.name, Cond.static Lib.Math.max.name, Cond.code Lib.Math.max.name Lib.Math.max.code 2 (some .int), Cond.fieldLink RX4 19 "GooseCodexModel" "now" "[I", Cond.methodLink RX4 67 yX4_isIn_, Cond.instanceMethod yX4_isIn_, Cond.selects RX4 yX4_isIn_ yX4_isIn_, Cond.initialized RX4, Cond.code yX4_isIn_ cX4_isIn_ 2 (some .boolean), Cond.fieldLink RX4 29 "GooseCodexModel" "gates" "I", Cond.methodLink RX4 64 yX4_vi, Cond.instanceMethod yX4_vi, Cond.selects RX4 yX4_vi yX4_vi, Cond.code yX4_vi cX4_vi 3 (some .int), Cond.methodLink RX4 73 yX4_let, Cond.instanceMethod yX4_let, Cond.selects RX4 yX4_let yX4_let, Cond.code yX4_let cX4_let 4 none]
def wsX4_move_r2 : List Cond := [Cond.methodLink RX4 70 yX4_hiss, Cond.instanceMethod yX4_hiss, Cond.selects RX4 yX4_hiss yX4_hiss, Cond.code yX4_hiss cX4_hiss 5 (some .int), Cond.methodLink RX4 57 yX4_isAwake, Cond.instanceMethod yX4_isAwake, Cond.selects RX4 yX4_isAwake yX4_isAwake, Cond.code yX4_isAwake cX4_isAwake 3 (some .boolean), Cond.fieldLink RX4 13 "GooseCodexModel" "keeps" "[I", Cond.methodLink RX4 48 yX4_go, Cond.instanceMethod yX4_go, Cond.selects RX4 yX4_go yX4_go, Cond.code yX4_go cX4_go 3 (some .int), Cond.methodLink RX4 61 yX4_more, Cond.instanceMethod yX4_more, Cond.selects RX4 yX4_more yX4_more, Cond.code yX4_more cX4_more 3 (some .int), Cond.fieldLink RX4 9 "GooseCodexModel" "rank" "[I", Cond.methodLink RX4 77 yX4_put, Cond.instanceMethod yX4_put, Cond.selects RX4 yX4_put yX4_put, Cond.code yX4_put cX4_put 4 none, Cond.methodLink RX4 83 yX4_angriest, Cond.instanceMethod yX4_angriest]
def wsX4_move_r3 : List Cond := [Cond.selects RX4 yX4_angriest yX4_angriest, Cond.code yX4_angriest cX4_angriest 4 (some .int), Cond.methodLink RX4 87 yX4_feed, Cond.instanceMethod yX4_feed, Cond.selects RX4 yX4_feed yX4_feed, Cond.code yX4_feed cX4_feed 3 none, Cond.methodLink RX4 91 yX4_grade, Cond.static yX4_grade, Cond.code yX4_grade cX4_grade 1 (some .int)]
def wsX4_move : List Cond := .code yX4_move cX4_move 5 none :: ((wsX4_move_r1 ++ (wsX4_move_r2 ++ wsX4_move_r3)) ++ wsX40)
def wsX4_beatOn_r1 : List Cond := [Cond.fieldLink RX4 36 "GooseCodexModel" "geese" "I", Cond.fieldLink RX4 39 "GooseCodexModel" "visitors" "I", Cond.fieldLink RX4 19 "GooseCodexModel" "now" "[I", Cond.methodLink RX4 48 yX4_go, Cond.instanceMethod yX4_go, Cond.selects RX4 yX4_go yX4_go, Cond.initialized RX4, Cond.code yX4_go cX4_go 3 (some .int), Cond.methodLink RX4 77 yX4_put, Cond.instanceMethod yX4_put, Cond.selects RX4 yX4_put yX4_put, Cond.code yX4_put cX4_put 4 none, Cond.methodLink RX4 94 yX4_move, Cond.instanceMethod yX4_move, Cond.selects RX4 yX4_move yX4_move, Cond.code yX4_move cX4_move 5 none, Cond.fieldLink RX4 16 "GooseCodexModel" "own" "[I", Cond.methodLink RX4 80 Lib.Math.min.name, Cond.static Lib.Math.min.name, Cond.initialized "java/lang/Math", Cond.code Lib.Math.min.name Lib.Math.min.code 2 (some .int), Cond.methodLink RX4 52 Lib.Math.max.name, Cond.static Lib.Math.max.name, Cond.code Lib.Math.max.name Lib.Math.max.code 2 (some .int)]
def wsX4_beatOn_r2 : List Cond := [Cond.methodLink RX4 67 yX4_isIn_, Cond.instanceMethod yX4_isIn_, Cond.selects RX4 yX4_isIn_ yX4_isIn_, Cond.code yX4_isIn_ cX4_isIn_ 2 (some .boolean), Cond.fieldLink RX4 29 "GooseCodexModel" "gates" "I", Cond.methodLink RX4 64 yX4_vi, Cond.instanceMethod yX4_vi, Cond.selects RX4 yX4_vi yX4_vi, Cond.code yX4_vi cX4_vi 3 (some .int), Cond.methodLink RX4 73 yX4_let, Cond.instanceMethod yX4_let, Cond.selects RX4 yX4_let yX4_let, Cond.code yX4_let cX4_let 4 none, Cond.methodLink RX4 70 yX4_hiss, Cond.instanceMethod yX4_hiss, Cond.selects RX4 yX4_hiss yX4_hiss, Cond.code yX4_hiss cX4_hiss 5 (some .int), Cond.methodLink RX4 57 yX4_isAwake, Cond.instanceMethod yX4_isAwake, Cond.selects RX4 yX4_isAwake yX4_isAwake, Cond.code yX4_isAwake cX4_isAwake 3 (some .boolean), Cond.fieldLink RX4 13 "GooseCodexModel" "keeps" "[I", Cond.methodLink RX4 61 yX4_more, Cond.instanceMethod yX4_more]
def wsX4_beatOn_r3 : List Cond := [Cond.selects RX4 yX4_more yX4_more, Cond.code yX4_more cX4_more 3 (some .int), Cond.fieldLink RX4 9 "GooseCodexModel" "rank" "[I", Cond.methodLink RX4 83 yX4_angriest, Cond.instanceMethod yX4_angriest, Cond.selects RX4 yX4_angriest yX4_angriest, Cond.code yX4_angriest cX4_angriest 4 (some .int), Cond.methodLink RX4 87 yX4_feed, Cond.instanceMethod yX4_feed, Cond.selects RX4 yX4_feed yX4_feed, Cond.code yX4_feed cX4_feed 3 none, Cond.methodLink RX4 91 yX4_grade, Cond.static yX4_grade, Cond.code yX4_grade cX4_grade 1 (some .int)]
def wsX4_beatOn : List Cond := .code yX4_beatOn cX4_beatOn 2 none :: ((wsX4_beatOn_r1 ++ (wsX4_beatOn_r2 ++ wsX4_beatOn_r3)) ++ wsX40)
def wsX4_beatsOn_r1 : List Cond := [Cond.methodLink RX4 98 yX4_beatOn, Cond.instanceMethod yX4_beatOn, Cond.selects RX4 yX4_beatOn yX4_beatOn, Cond.initialized RX4, Cond.code yX4_beatOn cX4_beatOn 2 none, Cond.fieldLink RX4 36 "GooseCodexModel" "geese" "I", Cond.fieldLink RX4 39 "GooseCodexModel" "visitors" "I", Cond.fieldLink RX4 19 "GooseCodexModel" "now" "[I", Cond.methodLink RX4 48 yX4_go, Cond.instanceMethod yX4_go, Cond.selects RX4 yX4_go yX4_go, Cond.code yX4_go cX4_go 3 (some .int), Cond.methodLink RX4 77 yX4_put, Cond.instanceMethod yX4_put, Cond.selects RX4 yX4_put yX4_put, Cond.code yX4_put cX4_put 4 none, Cond.methodLink RX4 94 yX4_move, Cond.instanceMethod yX4_move, Cond.selects RX4 yX4_move yX4_move, Cond.code yX4_move cX4_move 5 none, Cond.fieldLink RX4 16 "GooseCodexModel" "own" "[I", Cond.methodLink RX4 80 Lib.Math.min.name, Cond.static Lib.Math.min.name, Cond.initialized "java/lang/Math"]
def wsX4_beatsOn_r2 : List Cond := [Cond.code Lib.Math.min.name Lib.Math.min.code 2 (some .int), Cond.methodLink RX4 52 Lib.Math.max.name, Cond.static Lib.Math.max.name, Cond.code Lib.Math.max.name Lib.Math.max.code 2 (some .int), Cond.methodLink RX4 67 yX4_isIn_, Cond.instanceMethod yX4_isIn_, Cond.selects RX4 yX4_isIn_ yX4_isIn_, Cond.code yX4_isIn_ cX4_isIn_ 2 (some .boolean), Cond.fieldLink RX4 29 "GooseCodexModel" "gates" "I", Cond.methodLink RX4 64 yX4_vi, Cond.instanceMethod yX4_vi, Cond.selects RX4 yX4_vi yX4_vi, Cond.code yX4_vi cX4_vi 3 (some .int), Cond.methodLink RX4 73 yX4_let, Cond.instanceMethod yX4_let, Cond.selects RX4 yX4_let yX4_let, Cond.code yX4_let cX4_let 4 none, Cond.methodLink RX4 70 yX4_hiss, Cond.instanceMethod yX4_hiss, Cond.selects RX4 yX4_hiss yX4_hiss, Cond.code yX4_hiss cX4_hiss 5 (some .int), Cond.methodLink RX4 57 yX4_isAwake, Cond.instanceMethod yX4_isAwake, Cond.selects RX4 yX4_isAwake yX4_isAwake]
def wsX4_beatsOn_r3 : List Cond := [Cond.code yX4_isAwake cX4_isAwake 3 (some .boolean), Cond.fieldLink RX4 13 "GooseCodexModel" "keeps" "[I", Cond.methodLink RX4 61 yX4_more, Cond.instanceMethod yX4_more, Cond.selects RX4 yX4_more yX4_more, Cond.code yX4_more cX4_more 3 (some .int), Cond.fieldLink RX4 9 "GooseCodexModel" "rank" "[I", Cond.methodLink RX4 83 yX4_angriest, Cond.instanceMethod yX4_angriest, Cond.selects RX4 yX4_angriest yX4_angriest, Cond.code yX4_angriest cX4_angriest 4 (some .int), Cond.methodLink RX4 87 yX4_feed, Cond.instanceMethod yX4_feed, Cond.selects RX4 yX4_feed yX4_feed, Cond.code yX4_feed cX4_feed 3 none, Cond.methodLink RX4 91 yX4_grade, Cond.static yX4_grade, Cond.code yX4_grade cX4_grade 1 (some .int)]
def wsX4_beatsOn : List Cond := .code yX4_beatsOn cX4_beatsOn 3 none :: ((wsX4_beatsOn_r1 ++ (wsX4_beatsOn_r2 ++ wsX4_beatsOn_r3)) ++ wsX40)
def wsX4_inside : List Cond := .code yX4_inside cX4_inside 3 (some .int) :: ([.fieldLink RX4 39 "GooseCodexModel" "visitors" "I", .methodLink RX4 67 yX4_isIn_, .instanceMethod yX4_isIn_, .selects RX4 yX4_isIn_ yX4_isIn_, .initialized RX4, .code yX4_isIn_ cX4_isIn_ 2 (some .boolean), .fieldLink RX4 29 "GooseCodexModel" "gates" "I", .methodLink RX4 64 yX4_vi, .instanceMethod yX4_vi, .selects RX4 yX4_vi yX4_vi, .code yX4_vi cX4_vi 3 (some .int), .fieldLink RX4 19 "GooseCodexModel" "now" "[I"] ++ wsX40)
def wsX4_addGate : List Cond := .code yX4_addGate cX4_addGate 2 (some .int) :: ([.fieldLink RX4 25 "GooseCodexModel" "thrown" "I", .fieldLink RX4 29 "GooseCodexModel" "gates" "I", .fieldLink RX4 39 "GooseCodexModel" "visitors" "I", .fieldLink RX4 9 "GooseCodexModel" "rank" "[I", .methodLink RX4 32 yX4_isIn, .static yX4_isIn, .initialized RX4, .code yX4_isIn cX4_isIn 3 (some .boolean), .methodLink RX4 101 yX4_fail, .instanceMethod yX4_fail, .selects RX4 yX4_fail yX4_fail, .code yX4_fail cX4_fail 2 (some .int)] ++ wsX40)
def wsX4_addGoose : List Cond := .code yX4_addGoose cX4_addGoose 3 (some .int) :: ([.fieldLink RX4 25 "GooseCodexModel" "thrown" "I", .fieldLink RX4 36 "GooseCodexModel" "geese" "I", .fieldLink RX4 13 "GooseCodexModel" "keeps" "[I", .methodLink RX4 104 yX4_isGate, .instanceMethod yX4_isGate, .selects RX4 yX4_isGate yX4_isGate, .initialized RX4, .code yX4_isGate cX4_isGate 2 (some .boolean), .fieldLink RX4 29 "GooseCodexModel" "gates" "I", .methodLink RX4 32 yX4_isIn, .static yX4_isIn, .code yX4_isIn cX4_isIn 3 (some .boolean), .methodLink RX4 101 yX4_fail, .instanceMethod yX4_fail, .selects RX4 yX4_fail yX4_fail, .code yX4_fail cX4_fail 2 (some .int), .methodLink RX4 77 yX4_put, .instanceMethod yX4_put, .selects RX4 yX4_put yX4_put, .code yX4_put cX4_put 4 none, .fieldLink RX4 19 "GooseCodexModel" "now" "[I"] ++ wsX40)
def wsX4_arrive : List Cond := .code yX4_arrive cX4_arrive 4 (some .int) :: ([.fieldLink RX4 25 "GooseCodexModel" "thrown" "I", .fieldLink RX4 29 "GooseCodexModel" "gates" "I", .fieldLink RX4 39 "GooseCodexModel" "visitors" "I", .fieldLink RX4 16 "GooseCodexModel" "own" "[I", .methodLink RX4 32 yX4_isIn, .static yX4_isIn, .initialized RX4, .code yX4_isIn cX4_isIn 3 (some .boolean), .methodLink RX4 101 yX4_fail, .instanceMethod yX4_fail, .selects RX4 yX4_fail yX4_fail, .code yX4_fail cX4_fail 2 (some .int), .methodLink RX4 73 yX4_let, .instanceMethod yX4_let, .selects RX4 yX4_let yX4_let, .code yX4_let cX4_let 4 none, .fieldLink RX4 19 "GooseCodexModel" "now" "[I"] ++ wsX40)
def wsX4_setRank : List Cond := .code yX4_setRank cX4_setRank 4 (some .int) :: ([.fieldLink RX4 25 "GooseCodexModel" "thrown" "I", .fieldLink RX4 9 "GooseCodexModel" "rank" "[I", .methodLink RX4 104 yX4_isGate, .instanceMethod yX4_isGate, .selects RX4 yX4_isGate yX4_isGate, .initialized RX4, .code yX4_isGate cX4_isGate 2 (some .boolean), .fieldLink RX4 29 "GooseCodexModel" "gates" "I", .methodLink RX4 32 yX4_isIn, .static yX4_isIn, .code yX4_isIn cX4_isIn 3 (some .boolean), .methodLink RX4 101 yX4_fail, .instanceMethod yX4_fail, .selects RX4 yX4_fail yX4_fail, .code yX4_fail cX4_fail 2 (some .int)] ++ wsX40)
def wsX4_lead : List Cond := .code yX4_lead cX4_lead 4 (some .int) :: ([.fieldLink RX4 25 "GooseCodexModel" "thrown" "I", .fieldLink RX4 13 "GooseCodexModel" "keeps" "[I", .methodLink RX4 107 yX4_isGoose, .instanceMethod yX4_isGoose, .selects RX4 yX4_isGoose yX4_isGoose, .initialized RX4, .code yX4_isGoose cX4_isGoose 2 (some .boolean), .fieldLink RX4 36 "GooseCodexModel" "geese" "I", .methodLink RX4 32 yX4_isIn, .static yX4_isIn, .code yX4_isIn cX4_isIn 3 (some .boolean), .methodLink RX4 104 yX4_isGate, .instanceMethod yX4_isGate, .selects RX4 yX4_isGate yX4_isGate, .code yX4_isGate cX4_isGate 2 (some .boolean), .fieldLink RX4 29 "GooseCodexModel" "gates" "I", .methodLink RX4 101 yX4_fail, .instanceMethod yX4_fail, .selects RX4 yX4_fail yX4_fail, .code yX4_fail cX4_fail 2 (some .int)] ++ wsX40)
def wsX4_giveCorns_r1 : List Cond := [Cond.fieldLink RX4 25 "GooseCodexModel" "thrown" "I", Cond.methodLink RX4 80 Lib.Math.min.name, Cond.static Lib.Math.min.name, Cond.initialized "java/lang/Math", Cond.code Lib.Math.min.name Lib.Math.min.code 2 (some .int), Cond.methodLink RX4 110 yX4_isVisitor, Cond.instanceMethod yX4_isVisitor, Cond.selects RX4 yX4_isVisitor yX4_isVisitor, Cond.initialized RX4, Cond.code yX4_isVisitor cX4_isVisitor 2 (some .boolean), Cond.fieldLink RX4 39 "GooseCodexModel" "visitors" "I", Cond.methodLink RX4 32 yX4_isIn, Cond.static yX4_isIn, Cond.code yX4_isIn cX4_isIn 3 (some .boolean), Cond.methodLink RX4 101 yX4_fail, Cond.instanceMethod yX4_fail, Cond.selects RX4 yX4_fail yX4_fail, Cond.code yX4_fail cX4_fail 2 (some .int), Cond.methodLink RX4 64 yX4_vi, Cond.instanceMethod yX4_vi, Cond.selects RX4 yX4_vi yX4_vi, Cond.code yX4_vi cX4_vi 3 (some .int), Cond.fieldLink RX4 19 "GooseCodexModel" "now" "[I", Cond.methodLink RX4 73 yX4_let]
def wsX4_giveCorns_r2 : List Cond := [Cond.instanceMethod yX4_let, Cond.selects RX4 yX4_let yX4_let, Cond.code yX4_let cX4_let 4 none]
def wsX4_giveCorns : List Cond := .code yX4_giveCorns cX4_giveCorns 3 (some .int) :: ((wsX4_giveCorns_r1 ++ wsX4_giveCorns_r2) ++ wsX40)
def wsX4_bribe_r1 : List Cond := [Cond.fieldLink RX4 25 "GooseCodexModel" "thrown" "I", Cond.fieldLink RX4 13 "GooseCodexModel" "keeps" "[I", Cond.methodLink RX4 110 yX4_isVisitor, Cond.instanceMethod yX4_isVisitor, Cond.selects RX4 yX4_isVisitor yX4_isVisitor, Cond.initialized RX4, Cond.code yX4_isVisitor cX4_isVisitor 2 (some .boolean), Cond.fieldLink RX4 39 "GooseCodexModel" "visitors" "I", Cond.methodLink RX4 32 yX4_isIn, Cond.static yX4_isIn, Cond.code yX4_isIn cX4_isIn 3 (some .boolean), Cond.methodLink RX4 107 yX4_isGoose, Cond.instanceMethod yX4_isGoose, Cond.selects RX4 yX4_isGoose yX4_isGoose, Cond.code yX4_isGoose cX4_isGoose 2 (some .boolean), Cond.fieldLink RX4 36 "GooseCodexModel" "geese" "I", Cond.methodLink RX4 101 yX4_fail, Cond.instanceMethod yX4_fail, Cond.selects RX4 yX4_fail yX4_fail, Cond.code yX4_fail cX4_fail 2 (some .int), Cond.methodLink RX4 64 yX4_vi, Cond.instanceMethod yX4_vi, Cond.selects RX4 yX4_vi yX4_vi, Cond.code yX4_vi cX4_vi 3 (some .int)]
def wsX4_bribe_r2 : List Cond := [Cond.fieldLink RX4 19 "GooseCodexModel" "now" "[I", Cond.methodLink RX4 67 yX4_isIn_, Cond.instanceMethod yX4_isIn_, Cond.selects RX4 yX4_isIn_ yX4_isIn_, Cond.code yX4_isIn_ cX4_isIn_ 2 (some .boolean), Cond.fieldLink RX4 29 "GooseCodexModel" "gates" "I", Cond.methodLink RX4 87 yX4_feed, Cond.instanceMethod yX4_feed, Cond.selects RX4 yX4_feed yX4_feed, Cond.code yX4_feed cX4_feed 3 none, Cond.methodLink RX4 52 Lib.Math.max.name, Cond.static Lib.Math.max.name, Cond.initialized "java/lang/Math", Cond.code Lib.Math.max.name Lib.Math.max.code 2 (some .int), Cond.methodLink RX4 73 yX4_let, Cond.instanceMethod yX4_let, Cond.selects RX4 yX4_let yX4_let, Cond.code yX4_let cX4_let 4 none, Cond.methodLink RX4 77 yX4_put, Cond.instanceMethod yX4_put, Cond.selects RX4 yX4_put yX4_put, Cond.code yX4_put cX4_put 4 none, Cond.methodLink RX4 48 yX4_go, Cond.instanceMethod yX4_go]
def wsX4_bribe_r3 : List Cond := [Cond.selects RX4 yX4_go yX4_go, Cond.code yX4_go cX4_go 3 (some .int)]
def wsX4_bribe : List Cond := .code yX4_bribe cX4_bribe 3 (some .int) :: ((wsX4_bribe_r1 ++ (wsX4_bribe_r2 ++ wsX4_bribe_r3)) ++ wsX40)
def wsX4_passBeats_r1 : List Cond := [Cond.fieldLink RX4 25 "GooseCodexModel" "thrown" "I", Cond.methodLink RX4 32 yX4_isIn, Cond.static yX4_isIn, Cond.initialized RX4, Cond.code yX4_isIn cX4_isIn 3 (some .boolean), Cond.methodLink RX4 101 yX4_fail, Cond.instanceMethod yX4_fail, Cond.selects RX4 yX4_fail yX4_fail, Cond.code yX4_fail cX4_fail 2 (some .int), Cond.methodLink RX4 113 yX4_inside, Cond.instanceMethod yX4_inside, Cond.selects RX4 yX4_inside yX4_inside, Cond.code yX4_inside cX4_inside 3 (some .int), Cond.fieldLink RX4 39 "GooseCodexModel" "visitors" "I", Cond.methodLink RX4 67 yX4_isIn_, Cond.instanceMethod yX4_isIn_, Cond.selects RX4 yX4_isIn_ yX4_isIn_, Cond.code yX4_isIn_ cX4_isIn_ 2 (some .boolean), Cond.fieldLink RX4 29 "GooseCodexModel" "gates" "I", Cond.methodLink RX4 64 yX4_vi, Cond.instanceMethod yX4_vi, Cond.selects RX4 yX4_vi yX4_vi, Cond.code yX4_vi cX4_vi 3 (some .int), Cond.fieldLink RX4 19 "GooseCodexModel" "now" "[I"]
def wsX4_passBeats_r2 : List Cond := [Cond.methodLink RX4 117 yX4_beatsOn, Cond.instanceMethod yX4_beatsOn, Cond.selects RX4 yX4_beatsOn yX4_beatsOn, Cond.code yX4_beatsOn cX4_beatsOn 3 none, Cond.methodLink RX4 98 yX4_beatOn, Cond.instanceMethod yX4_beatOn, Cond.selects RX4 yX4_beatOn yX4_beatOn, Cond.code yX4_beatOn cX4_beatOn 2 none, Cond.fieldLink RX4 36 "GooseCodexModel" "geese" "I", Cond.methodLink RX4 48 yX4_go, Cond.instanceMethod yX4_go, Cond.selects RX4 yX4_go yX4_go, Cond.code yX4_go cX4_go 3 (some .int), Cond.methodLink RX4 77 yX4_put, Cond.instanceMethod yX4_put, Cond.selects RX4 yX4_put yX4_put, Cond.code yX4_put cX4_put 4 none, Cond.methodLink RX4 94 yX4_move, Cond.instanceMethod yX4_move, Cond.selects RX4 yX4_move yX4_move, Cond.code yX4_move cX4_move 5 none, Cond.fieldLink RX4 16 "GooseCodexModel" "own" "[I", Cond.methodLink RX4 80 Lib.Math.min.name, Cond.static Lib.Math.min.name]
def wsX4_passBeats_r3 : List Cond := [Cond.initialized "java/lang/Math", Cond.code Lib.Math.min.name Lib.Math.min.code 2 (some .int), Cond.methodLink RX4 52 Lib.Math.max.name, Cond.static Lib.Math.max.name, Cond.code Lib.Math.max.name Lib.Math.max.code 2 (some .int), Cond.methodLink RX4 73 yX4_let, Cond.instanceMethod yX4_let, Cond.selects RX4 yX4_let yX4_let, Cond.code yX4_let cX4_let 4 none, Cond.methodLink RX4 70 yX4_hiss, Cond.instanceMethod yX4_hiss, Cond.selects RX4 yX4_hiss yX4_hiss, Cond.code yX4_hiss cX4_hiss 5 (some .int), Cond.methodLink RX4 57 yX4_isAwake, Cond.instanceMethod yX4_isAwake, Cond.selects RX4 yX4_isAwake yX4_isAwake, Cond.code yX4_isAwake cX4_isAwake 3 (some .boolean), Cond.fieldLink RX4 13 "GooseCodexModel" "keeps" "[I", Cond.methodLink RX4 61 yX4_more, Cond.instanceMethod yX4_more, Cond.selects RX4 yX4_more yX4_more, Cond.code yX4_more cX4_more 3 (some .int), Cond.fieldLink RX4 9 "GooseCodexModel" "rank" "[I", Cond.methodLink RX4 83 yX4_angriest]
def wsX4_passBeats_r4 : List Cond := [Cond.instanceMethod yX4_angriest, Cond.selects RX4 yX4_angriest yX4_angriest, Cond.code yX4_angriest cX4_angriest 4 (some .int), Cond.methodLink RX4 87 yX4_feed, Cond.instanceMethod yX4_feed, Cond.selects RX4 yX4_feed yX4_feed, Cond.code yX4_feed cX4_feed 3 none, Cond.methodLink RX4 91 yX4_grade, Cond.static yX4_grade, Cond.code yX4_grade cX4_grade 1 (some .int)]
def wsX4_passBeats : List Cond := .code yX4_passBeats cX4_passBeats 3 (some .int) :: ((wsX4_passBeats_r1 ++ (wsX4_passBeats_r2 ++ (wsX4_passBeats_r3 ++ wsX4_passBeats_r4))) ++ wsX40)
def wsX4_beats : List Cond := .code yX4_beats cX4_beats 1 (some .int) :: ([.fieldLink RX4 19 "GooseCodexModel" "now" "[I", .methodLink RX4 120 yX4_told, .instanceMethod yX4_told, .selects RX4 yX4_told yX4_told, .initialized RX4, .code yX4_told cX4_told 2 (some .int), .fieldLink RX4 25 "GooseCodexModel" "thrown" "I"] ++ wsX40)
def wsX4_gates : List Cond := .code yX4_gates cX4_gates 1 (some .int) :: ([.fieldLink RX4 29 "GooseCodexModel" "gates" "I", .methodLink RX4 120 yX4_told, .instanceMethod yX4_told, .selects RX4 yX4_told yX4_told, .initialized RX4, .code yX4_told cX4_told 2 (some .int), .fieldLink RX4 25 "GooseCodexModel" "thrown" "I"] ++ wsX40)
def wsX4_geese : List Cond := .code yX4_geese cX4_geese 1 (some .int) :: ([.fieldLink RX4 36 "GooseCodexModel" "geese" "I", .methodLink RX4 120 yX4_told, .instanceMethod yX4_told, .selects RX4 yX4_told yX4_told, .initialized RX4, .code yX4_told cX4_told 2 (some .int), .fieldLink RX4 25 "GooseCodexModel" "thrown" "I"] ++ wsX40)
def wsX4_visitors : List Cond := .code yX4_visitors cX4_visitors 1 (some .int) :: ([.fieldLink RX4 39 "GooseCodexModel" "visitors" "I", .methodLink RX4 120 yX4_told, .instanceMethod yX4_told, .selects RX4 yX4_told yX4_told, .initialized RX4, .code yX4_told cX4_told 2 (some .int), .fieldLink RX4 25 "GooseCodexModel" "thrown" "I"] ++ wsX40)
def wsX4_inFarm : List Cond := .code yX4_inFarm cX4_inFarm 1 (some .int) :: ([.methodLink RX4 113 yX4_inside, .instanceMethod yX4_inside, .selects RX4 yX4_inside yX4_inside, .initialized RX4, .code yX4_inside cX4_inside 3 (some .int), .fieldLink RX4 39 "GooseCodexModel" "visitors" "I", .methodLink RX4 67 yX4_isIn_, .instanceMethod yX4_isIn_, .selects RX4 yX4_isIn_ yX4_isIn_, .code yX4_isIn_ cX4_isIn_ 2 (some .boolean), .fieldLink RX4 29 "GooseCodexModel" "gates" "I", .methodLink RX4 64 yX4_vi, .instanceMethod yX4_vi, .selects RX4 yX4_vi yX4_vi, .code yX4_vi cX4_vi 3 (some .int), .fieldLink RX4 19 "GooseCodexModel" "now" "[I", .methodLink RX4 120 yX4_told, .instanceMethod yX4_told, .selects RX4 yX4_told yX4_told, .code yX4_told cX4_told 2 (some .int), .fieldLink RX4 25 "GooseCodexModel" "thrown" "I"] ++ wsX40)
def wsX4_bribes : List Cond := .code yX4_bribes cX4_bribes 1 (some .int) :: ([.fieldLink RX4 19 "GooseCodexModel" "now" "[I", .methodLink RX4 120 yX4_told, .instanceMethod yX4_told, .selects RX4 yX4_told yX4_told, .initialized RX4, .code yX4_told cX4_told 2 (some .int), .fieldLink RX4 25 "GooseCodexModel" "thrown" "I"] ++ wsX40)
def wsX4_retreats : List Cond := .code yX4_retreats cX4_retreats 1 (some .int) :: ([.fieldLink RX4 19 "GooseCodexModel" "now" "[I", .methodLink RX4 120 yX4_told, .instanceMethod yX4_told, .selects RX4 yX4_told yX4_told, .initialized RX4, .code yX4_told cX4_told 2 (some .int), .fieldLink RX4 25 "GooseCodexModel" "thrown" "I"] ++ wsX40)
def wsX4_rankOf : List Cond := .code yX4_rankOf cX4_rankOf 2 (some .int) :: ([.fieldLink RX4 25 "GooseCodexModel" "thrown" "I", .fieldLink RX4 9 "GooseCodexModel" "rank" "[I", .methodLink RX4 104 yX4_isGate, .instanceMethod yX4_isGate, .selects RX4 yX4_isGate yX4_isGate, .initialized RX4, .code yX4_isGate cX4_isGate 2 (some .boolean), .fieldLink RX4 29 "GooseCodexModel" "gates" "I", .methodLink RX4 32 yX4_isIn, .static yX4_isIn, .code yX4_isIn cX4_isIn 3 (some .boolean), .methodLink RX4 101 yX4_fail, .instanceMethod yX4_fail, .selects RX4 yX4_fail yX4_fail, .code yX4_fail cX4_fail 2 (some .int)] ++ wsX40)
def wsX4_awake : List Cond := .code yX4_awake cX4_awake 4 (some .int) :: ([.fieldLink RX4 36 "GooseCodexModel" "geese" "I", .methodLink RX4 57 yX4_isAwake, .instanceMethod yX4_isAwake, .selects RX4 yX4_isAwake yX4_isAwake, .initialized RX4, .code yX4_isAwake cX4_isAwake 3 (some .boolean), .fieldLink RX4 13 "GooseCodexModel" "keeps" "[I", .methodLink RX4 48 yX4_go, .instanceMethod yX4_go, .selects RX4 yX4_go yX4_go, .code yX4_go cX4_go 3 (some .int), .fieldLink RX4 19 "GooseCodexModel" "now" "[I"] ++ wsX40)
def wsX4_awakeAt_r1 : List Cond := [Cond.fieldLink RX4 25 "GooseCodexModel" "thrown" "I", Cond.methodLink RX4 104 yX4_isGate, Cond.instanceMethod yX4_isGate, Cond.selects RX4 yX4_isGate yX4_isGate, Cond.initialized RX4, Cond.code yX4_isGate cX4_isGate 2 (some .boolean), Cond.fieldLink RX4 29 "GooseCodexModel" "gates" "I", Cond.methodLink RX4 32 yX4_isIn, Cond.static yX4_isIn, Cond.code yX4_isIn cX4_isIn 3 (some .boolean), Cond.methodLink RX4 123 yX4_awake, Cond.instanceMethod yX4_awake, Cond.selects RX4 yX4_awake yX4_awake, Cond.code yX4_awake cX4_awake 4 (some .int), Cond.fieldLink RX4 36 "GooseCodexModel" "geese" "I", Cond.methodLink RX4 57 yX4_isAwake, Cond.instanceMethod yX4_isAwake, Cond.selects RX4 yX4_isAwake yX4_isAwake, Cond.code yX4_isAwake cX4_isAwake 3 (some .boolean), Cond.fieldLink RX4 13 "GooseCodexModel" "keeps" "[I", Cond.methodLink RX4 48 yX4_go, Cond.instanceMethod yX4_go, Cond.selects RX4 yX4_go yX4_go, Cond.code yX4_go cX4_go 3 (some .int)]
def wsX4_awakeAt_r2 : List Cond := [Cond.fieldLink RX4 19 "GooseCodexModel" "now" "[I", Cond.methodLink RX4 101 yX4_fail, Cond.instanceMethod yX4_fail, Cond.selects RX4 yX4_fail yX4_fail, Cond.code yX4_fail cX4_fail 2 (some .int)]
def wsX4_awakeAt : List Cond := .code yX4_awakeAt cX4_awakeAt 2 (some .int) :: ((wsX4_awakeAt_r1 ++ wsX4_awakeAt_r2) ++ wsX40)
def wsX4_hissOf_r1 : List Cond := [Cond.fieldLink RX4 25 "GooseCodexModel" "thrown" "I", Cond.methodLink RX4 104 yX4_isGate, Cond.instanceMethod yX4_isGate, Cond.selects RX4 yX4_isGate yX4_isGate, Cond.initialized RX4, Cond.code yX4_isGate cX4_isGate 2 (some .boolean), Cond.fieldLink RX4 29 "GooseCodexModel" "gates" "I", Cond.methodLink RX4 32 yX4_isIn, Cond.static yX4_isIn, Cond.code yX4_isIn cX4_isIn 3 (some .boolean), Cond.methodLink RX4 101 yX4_fail, Cond.instanceMethod yX4_fail, Cond.selects RX4 yX4_fail yX4_fail, Cond.code yX4_fail cX4_fail 2 (some .int), Cond.methodLink RX4 70 yX4_hiss, Cond.instanceMethod yX4_hiss, Cond.selects RX4 yX4_hiss yX4_hiss, Cond.code yX4_hiss cX4_hiss 5 (some .int), Cond.fieldLink RX4 36 "GooseCodexModel" "geese" "I", Cond.methodLink RX4 57 yX4_isAwake, Cond.instanceMethod yX4_isAwake, Cond.selects RX4 yX4_isAwake yX4_isAwake, Cond.code yX4_isAwake cX4_isAwake 3 (some .boolean), Cond.fieldLink RX4 13 "GooseCodexModel" "keeps" "[I"]
def wsX4_hissOf_r2 : List Cond := [Cond.methodLink RX4 48 yX4_go, Cond.instanceMethod yX4_go, Cond.selects RX4 yX4_go yX4_go, Cond.code yX4_go cX4_go 3 (some .int), Cond.fieldLink RX4 19 "GooseCodexModel" "now" "[I", Cond.methodLink RX4 61 yX4_more, Cond.instanceMethod yX4_more, Cond.selects RX4 yX4_more yX4_more, Cond.code yX4_more cX4_more 3 (some .int), Cond.fieldLink RX4 9 "GooseCodexModel" "rank" "[I", Cond.methodLink RX4 52 Lib.Math.max.name, Cond.static Lib.Math.max.name, Cond.initialized "java/lang/Math", Cond.code Lib.Math.max.name Lib.Math.max.code 2 (some .int)]
def wsX4_hissOf : List Cond := .code yX4_hissOf cX4_hissOf 3 (some .int) :: ((wsX4_hissOf_r1 ++ wsX4_hissOf_r2) ++ wsX40)
def wsX4_loudest_r1 : List Cond := [Cond.fieldLink RX4 29 "GooseCodexModel" "gates" "I", Cond.methodLink RX4 70 yX4_hiss, Cond.instanceMethod yX4_hiss, Cond.selects RX4 yX4_hiss yX4_hiss, Cond.initialized RX4, Cond.code yX4_hiss cX4_hiss 5 (some .int), Cond.fieldLink RX4 36 "GooseCodexModel" "geese" "I", Cond.methodLink RX4 57 yX4_isAwake, Cond.instanceMethod yX4_isAwake, Cond.selects RX4 yX4_isAwake yX4_isAwake, Cond.code yX4_isAwake cX4_isAwake 3 (some .boolean), Cond.fieldLink RX4 13 "GooseCodexModel" "keeps" "[I", Cond.methodLink RX4 48 yX4_go, Cond.instanceMethod yX4_go, Cond.selects RX4 yX4_go yX4_go, Cond.code yX4_go cX4_go 3 (some .int), Cond.fieldLink RX4 19 "GooseCodexModel" "now" "[I", Cond.methodLink RX4 61 yX4_more, Cond.instanceMethod yX4_more, Cond.selects RX4 yX4_more yX4_more, Cond.code yX4_more cX4_more 3 (some .int), Cond.fieldLink RX4 9 "GooseCodexModel" "rank" "[I", Cond.methodLink RX4 52 Lib.Math.max.name, Cond.static Lib.Math.max.name]
def wsX4_loudest_r2 : List Cond := [Cond.initialized "java/lang/Math", Cond.code Lib.Math.max.name Lib.Math.max.code 2 (some .int)]
def wsX4_loudest : List Cond := .code yX4_loudest cX4_loudest 3 (some .int) :: ((wsX4_loudest_r1 ++ wsX4_loudest_r2) ++ wsX40)
def wsX4_loudestGate_r1 : List Cond := [Cond.methodLink RX4 126 yX4_loudest, Cond.instanceMethod yX4_loudest, Cond.selects RX4 yX4_loudest yX4_loudest, Cond.initialized RX4, Cond.code yX4_loudest cX4_loudest 3 (some .int), Cond.fieldLink RX4 29 "GooseCodexModel" "gates" "I", Cond.methodLink RX4 70 yX4_hiss, Cond.instanceMethod yX4_hiss, Cond.selects RX4 yX4_hiss yX4_hiss, Cond.code yX4_hiss cX4_hiss 5 (some .int), Cond.fieldLink RX4 36 "GooseCodexModel" "geese" "I", Cond.methodLink RX4 57 yX4_isAwake, Cond.instanceMethod yX4_isAwake, Cond.selects RX4 yX4_isAwake yX4_isAwake, Cond.code yX4_isAwake cX4_isAwake 3 (some .boolean), Cond.fieldLink RX4 13 "GooseCodexModel" "keeps" "[I", Cond.methodLink RX4 48 yX4_go, Cond.instanceMethod yX4_go, Cond.selects RX4 yX4_go yX4_go, Cond.code yX4_go cX4_go 3 (some .int), Cond.fieldLink RX4 19 "GooseCodexModel" "now" "[I", Cond.methodLink RX4 61 yX4_more, Cond.instanceMethod yX4_more, Cond.selects RX4 yX4_more yX4_more]
def wsX4_loudestGate_r2 : List Cond := [Cond.code yX4_more cX4_more 3 (some .int), Cond.fieldLink RX4 9 "GooseCodexModel" "rank" "[I", Cond.methodLink RX4 52 Lib.Math.max.name, Cond.static Lib.Math.max.name, Cond.initialized "java/lang/Math", Cond.code Lib.Math.max.name Lib.Math.max.code 2 (some .int), Cond.methodLink RX4 120 yX4_told, Cond.instanceMethod yX4_told, Cond.selects RX4 yX4_told yX4_told, Cond.code yX4_told cX4_told 2 (some .int), Cond.fieldLink RX4 25 "GooseCodexModel" "thrown" "I"]
def wsX4_loudestGate : List Cond := .code yX4_loudestGate cX4_loudestGate 1 (some .int) :: ((wsX4_loudestGate_r1 ++ wsX4_loudestGate_r2) ++ wsX40)
def wsX4_gateOf : List Cond := .code yX4_gateOf cX4_gateOf 2 (some .int) :: ([.fieldLink RX4 25 "GooseCodexModel" "thrown" "I", .fieldLink RX4 13 "GooseCodexModel" "keeps" "[I", .methodLink RX4 107 yX4_isGoose, .instanceMethod yX4_isGoose, .selects RX4 yX4_isGoose yX4_isGoose, .initialized RX4, .code yX4_isGoose cX4_isGoose 2 (some .boolean), .fieldLink RX4 36 "GooseCodexModel" "geese" "I", .methodLink RX4 32 yX4_isIn, .static yX4_isIn, .code yX4_isIn cX4_isIn 3 (some .boolean), .methodLink RX4 101 yX4_fail, .instanceMethod yX4_fail, .selects RX4 yX4_fail yX4_fail, .code yX4_fail cX4_fail 2 (some .int)] ++ wsX40)
def wsX4_goose : List Cond := .code yX4_goose cX4_goose 3 (some .int) :: ([.fieldLink RX4 25 "GooseCodexModel" "thrown" "I", .methodLink RX4 107 yX4_isGoose, .instanceMethod yX4_isGoose, .selects RX4 yX4_isGoose yX4_isGoose, .initialized RX4, .code yX4_isGoose cX4_isGoose 2 (some .boolean), .fieldLink RX4 36 "GooseCodexModel" "geese" "I", .methodLink RX4 32 yX4_isIn, .static yX4_isIn, .code yX4_isIn cX4_isIn 3 (some .boolean), .methodLink RX4 48 yX4_go, .instanceMethod yX4_go, .selects RX4 yX4_go yX4_go, .code yX4_go cX4_go 3 (some .int), .fieldLink RX4 19 "GooseCodexModel" "now" "[I", .methodLink RX4 101 yX4_fail, .instanceMethod yX4_fail, .selects RX4 yX4_fail yX4_fail, .code yX4_fail cX4_fail 2 (some .int)] ++ wsX40)
def wsX4_temperOf : List Cond := .code yX4_temperOf cX4_temperOf 2 (some .int) :: ([.methodLink RX4 129 yX4_goose, .instanceMethod yX4_goose, .selects RX4 yX4_goose yX4_goose, .initialized RX4, .code yX4_goose cX4_goose 3 (some .int), .fieldLink RX4 25 "GooseCodexModel" "thrown" "I", .methodLink RX4 107 yX4_isGoose, .instanceMethod yX4_isGoose, .selects RX4 yX4_isGoose yX4_isGoose, .code yX4_isGoose cX4_isGoose 2 (some .boolean), .fieldLink RX4 36 "GooseCodexModel" "geese" "I", .methodLink RX4 32 yX4_isIn, .static yX4_isIn, .code yX4_isIn cX4_isIn 3 (some .boolean), .methodLink RX4 48 yX4_go, .instanceMethod yX4_go, .selects RX4 yX4_go yX4_go, .code yX4_go cX4_go 3 (some .int), .fieldLink RX4 19 "GooseCodexModel" "now" "[I", .methodLink RX4 101 yX4_fail, .instanceMethod yX4_fail, .selects RX4 yX4_fail yX4_fail, .code yX4_fail cX4_fail 2 (some .int)] ++ wsX40)
def wsX4_calmFor : List Cond := .code yX4_calmFor cX4_calmFor 2 (some .int) :: ([.methodLink RX4 129 yX4_goose, .instanceMethod yX4_goose, .selects RX4 yX4_goose yX4_goose, .initialized RX4, .code yX4_goose cX4_goose 3 (some .int), .fieldLink RX4 25 "GooseCodexModel" "thrown" "I", .methodLink RX4 107 yX4_isGoose, .instanceMethod yX4_isGoose, .selects RX4 yX4_isGoose yX4_isGoose, .code yX4_isGoose cX4_isGoose 2 (some .boolean), .fieldLink RX4 36 "GooseCodexModel" "geese" "I", .methodLink RX4 32 yX4_isIn, .static yX4_isIn, .code yX4_isIn cX4_isIn 3 (some .boolean), .methodLink RX4 48 yX4_go, .instanceMethod yX4_go, .selects RX4 yX4_go yX4_go, .code yX4_go cX4_go 3 (some .int), .fieldLink RX4 19 "GooseCodexModel" "now" "[I", .methodLink RX4 101 yX4_fail, .instanceMethod yX4_fail, .selects RX4 yX4_fail yX4_fail, .code yX4_fail cX4_fail 2 (some .int)] ++ wsX40)
def wsX4_eatenBy : List Cond := .code yX4_eatenBy cX4_eatenBy 2 (some .int) :: ([.methodLink RX4 129 yX4_goose, .instanceMethod yX4_goose, .selects RX4 yX4_goose yX4_goose, .initialized RX4, .code yX4_goose cX4_goose 3 (some .int), .fieldLink RX4 25 "GooseCodexModel" "thrown" "I", .methodLink RX4 107 yX4_isGoose, .instanceMethod yX4_isGoose, .selects RX4 yX4_isGoose yX4_isGoose, .code yX4_isGoose cX4_isGoose 2 (some .boolean), .fieldLink RX4 36 "GooseCodexModel" "geese" "I", .methodLink RX4 32 yX4_isIn, .static yX4_isIn, .code yX4_isIn cX4_isIn 3 (some .boolean), .methodLink RX4 48 yX4_go, .instanceMethod yX4_go, .selects RX4 yX4_go yX4_go, .code yX4_go cX4_go 3 (some .int), .fieldLink RX4 19 "GooseCodexModel" "now" "[I", .methodLink RX4 101 yX4_fail, .instanceMethod yX4_fail, .selects RX4 yX4_fail yX4_fail, .code yX4_fail cX4_fail 2 (some .int)] ++ wsX40)
def wsX4_visitor : List Cond := .code yX4_visitor cX4_visitor 3 (some .int) :: ([.fieldLink RX4 25 "GooseCodexModel" "thrown" "I", .methodLink RX4 110 yX4_isVisitor, .instanceMethod yX4_isVisitor, .selects RX4 yX4_isVisitor yX4_isVisitor, .initialized RX4, .code yX4_isVisitor cX4_isVisitor 2 (some .boolean), .fieldLink RX4 39 "GooseCodexModel" "visitors" "I", .methodLink RX4 32 yX4_isIn, .static yX4_isIn, .code yX4_isIn cX4_isIn 3 (some .boolean), .methodLink RX4 64 yX4_vi, .instanceMethod yX4_vi, .selects RX4 yX4_vi yX4_vi, .code yX4_vi cX4_vi 3 (some .int), .fieldLink RX4 19 "GooseCodexModel" "now" "[I", .methodLink RX4 101 yX4_fail, .instanceMethod yX4_fail, .selects RX4 yX4_fail yX4_fail, .code yX4_fail cX4_fail 2 (some .int)] ++ wsX40)
def wsX4_passedBy : List Cond := .code yX4_passedBy cX4_passedBy 2 (some .int) :: ([.methodLink RX4 132 yX4_visitor, .instanceMethod yX4_visitor, .selects RX4 yX4_visitor yX4_visitor, .initialized RX4, .code yX4_visitor cX4_visitor 3 (some .int), .fieldLink RX4 25 "GooseCodexModel" "thrown" "I", .methodLink RX4 110 yX4_isVisitor, .instanceMethod yX4_isVisitor, .selects RX4 yX4_isVisitor yX4_isVisitor, .code yX4_isVisitor cX4_isVisitor 2 (some .boolean), .fieldLink RX4 39 "GooseCodexModel" "visitors" "I", .methodLink RX4 32 yX4_isIn, .static yX4_isIn, .code yX4_isIn cX4_isIn 3 (some .boolean), .methodLink RX4 64 yX4_vi, .instanceMethod yX4_vi, .selects RX4 yX4_vi yX4_vi, .code yX4_vi cX4_vi 3 (some .int), .fieldLink RX4 19 "GooseCodexModel" "now" "[I", .methodLink RX4 101 yX4_fail, .instanceMethod yX4_fail, .selects RX4 yX4_fail yX4_fail, .code yX4_fail cX4_fail 2 (some .int)] ++ wsX40)
def wsX4_isInFarm : List Cond := .code yX4_isInFarm cX4_isInFarm 2 (some .boolean) :: ([.fieldLink RX4 25 "GooseCodexModel" "thrown" "I", .methodLink RX4 110 yX4_isVisitor, .instanceMethod yX4_isVisitor, .selects RX4 yX4_isVisitor yX4_isVisitor, .initialized RX4, .code yX4_isVisitor cX4_isVisitor 2 (some .boolean), .fieldLink RX4 39 "GooseCodexModel" "visitors" "I", .methodLink RX4 32 yX4_isIn, .static yX4_isIn, .code yX4_isIn cX4_isIn 3 (some .boolean), .methodLink RX4 67 yX4_isIn_, .instanceMethod yX4_isIn_, .selects RX4 yX4_isIn_ yX4_isIn_, .code yX4_isIn_ cX4_isIn_ 2 (some .boolean), .fieldLink RX4 29 "GooseCodexModel" "gates" "I", .methodLink RX4 64 yX4_vi, .instanceMethod yX4_vi, .selects RX4 yX4_vi yX4_vi, .code yX4_vi cX4_vi 3 (some .int), .fieldLink RX4 19 "GooseCodexModel" "now" "[I"] ++ wsX40)
def wsX4_cornsOf : List Cond := .code yX4_cornsOf cX4_cornsOf 2 (some .int) :: ([.methodLink RX4 132 yX4_visitor, .instanceMethod yX4_visitor, .selects RX4 yX4_visitor yX4_visitor, .initialized RX4, .code yX4_visitor cX4_visitor 3 (some .int), .fieldLink RX4 25 "GooseCodexModel" "thrown" "I", .methodLink RX4 110 yX4_isVisitor, .instanceMethod yX4_isVisitor, .selects RX4 yX4_isVisitor yX4_isVisitor, .code yX4_isVisitor cX4_isVisitor 2 (some .boolean), .fieldLink RX4 39 "GooseCodexModel" "visitors" "I", .methodLink RX4 32 yX4_isIn, .static yX4_isIn, .code yX4_isIn cX4_isIn 3 (some .boolean), .methodLink RX4 64 yX4_vi, .instanceMethod yX4_vi, .selects RX4 yX4_vi yX4_vi, .code yX4_vi cX4_vi 3 (some .int), .fieldLink RX4 19 "GooseCodexModel" "now" "[I", .methodLink RX4 101 yX4_fail, .instanceMethod yX4_fail, .selects RX4 yX4_fail yX4_fail, .code yX4_fail cX4_fail 2 (some .int)] ++ wsX40)
def wsX4_nerveOf : List Cond := .code yX4_nerveOf cX4_nerveOf 2 (some .int) :: ([.methodLink RX4 132 yX4_visitor, .instanceMethod yX4_visitor, .selects RX4 yX4_visitor yX4_visitor, .initialized RX4, .code yX4_visitor cX4_visitor 3 (some .int), .fieldLink RX4 25 "GooseCodexModel" "thrown" "I", .methodLink RX4 110 yX4_isVisitor, .instanceMethod yX4_isVisitor, .selects RX4 yX4_isVisitor yX4_isVisitor, .code yX4_isVisitor cX4_isVisitor 2 (some .boolean), .fieldLink RX4 39 "GooseCodexModel" "visitors" "I", .methodLink RX4 32 yX4_isIn, .static yX4_isIn, .code yX4_isIn cX4_isIn 3 (some .boolean), .methodLink RX4 64 yX4_vi, .instanceMethod yX4_vi, .selects RX4 yX4_vi yX4_vi, .code yX4_vi cX4_vi 3 (some .int), .fieldLink RX4 19 "GooseCodexModel" "now" "[I", .methodLink RX4 101 yX4_fail, .instanceMethod yX4_fail, .selects RX4 yX4_fail yX4_fail, .code yX4_fail cX4_fail 2 (some .int)] ++ wsX40)
def wsX4_retreatOf : List Cond := .code yX4_retreatOf cX4_retreatOf 2 (some .int) :: ([.methodLink RX4 132 yX4_visitor, .instanceMethod yX4_visitor, .selects RX4 yX4_visitor yX4_visitor, .initialized RX4, .code yX4_visitor cX4_visitor 3 (some .int), .fieldLink RX4 25 "GooseCodexModel" "thrown" "I", .methodLink RX4 110 yX4_isVisitor, .instanceMethod yX4_isVisitor, .selects RX4 yX4_isVisitor yX4_isVisitor, .code yX4_isVisitor cX4_isVisitor 2 (some .boolean), .fieldLink RX4 39 "GooseCodexModel" "visitors" "I", .methodLink RX4 32 yX4_isIn, .static yX4_isIn, .code yX4_isIn cX4_isIn 3 (some .boolean), .methodLink RX4 64 yX4_vi, .instanceMethod yX4_vi, .selects RX4 yX4_vi yX4_vi, .code yX4_vi cX4_vi 3 (some .int), .fieldLink RX4 19 "GooseCodexModel" "now" "[I", .methodLink RX4 101 yX4_fail, .instanceMethod yX4_fail, .selects RX4 yX4_fail yX4_fail, .code yX4_fail cX4_fail 2 (some .int)] ++ wsX40)
def wsX4_hissAt_r1 : List Cond := [Cond.fieldLink RX4 25 "GooseCodexModel" "thrown" "I", Cond.methodLink RX4 110 yX4_isVisitor, Cond.instanceMethod yX4_isVisitor, Cond.selects RX4 yX4_isVisitor yX4_isVisitor, Cond.initialized RX4, Cond.code yX4_isVisitor cX4_isVisitor 2 (some .boolean), Cond.fieldLink RX4 39 "GooseCodexModel" "visitors" "I", Cond.methodLink RX4 32 yX4_isIn, Cond.static yX4_isIn, Cond.code yX4_isIn cX4_isIn 3 (some .boolean), Cond.methodLink RX4 135 yX4_hissNow, Cond.instanceMethod yX4_hissNow, Cond.selects RX4 yX4_hissNow yX4_hissNow, Cond.code yX4_hissNow cX4_hissNow 2 (some .int), Cond.fieldLink RX4 16 "GooseCodexModel" "own" "[I", Cond.methodLink RX4 67 yX4_isIn_, Cond.instanceMethod yX4_isIn_, Cond.selects RX4 yX4_isIn_ yX4_isIn_, Cond.code yX4_isIn_ cX4_isIn_ 2 (some .boolean), Cond.fieldLink RX4 29 "GooseCodexModel" "gates" "I", Cond.methodLink RX4 64 yX4_vi, Cond.instanceMethod yX4_vi, Cond.selects RX4 yX4_vi yX4_vi, Cond.code yX4_vi cX4_vi 3 (some .int)]
def wsX4_hissAt_r2 : List Cond := [Cond.fieldLink RX4 19 "GooseCodexModel" "now" "[I", Cond.methodLink RX4 70 yX4_hiss, Cond.instanceMethod yX4_hiss, Cond.selects RX4 yX4_hiss yX4_hiss, Cond.code yX4_hiss cX4_hiss 5 (some .int), Cond.fieldLink RX4 36 "GooseCodexModel" "geese" "I", Cond.methodLink RX4 57 yX4_isAwake, Cond.instanceMethod yX4_isAwake, Cond.selects RX4 yX4_isAwake yX4_isAwake, Cond.code yX4_isAwake cX4_isAwake 3 (some .boolean), Cond.fieldLink RX4 13 "GooseCodexModel" "keeps" "[I", Cond.methodLink RX4 48 yX4_go, Cond.instanceMethod yX4_go, Cond.selects RX4 yX4_go yX4_go, Cond.code yX4_go cX4_go 3 (some .int), Cond.methodLink RX4 61 yX4_more, Cond.instanceMethod yX4_more, Cond.selects RX4 yX4_more yX4_more, Cond.code yX4_more cX4_more 3 (some .int), Cond.fieldLink RX4 9 "GooseCodexModel" "rank" "[I", Cond.methodLink RX4 52 Lib.Math.max.name, Cond.static Lib.Math.max.name, Cond.initialized "java/lang/Math", Cond.code Lib.Math.max.name Lib.Math.max.code 2 (some .int)]
def wsX4_hissAt_r3 : List Cond := [Cond.methodLink RX4 101 yX4_fail, Cond.instanceMethod yX4_fail, Cond.selects RX4 yX4_fail yX4_fail, Cond.code yX4_fail cX4_fail 2 (some .int)]
def wsX4_hissAt : List Cond := .code yX4_hissAt cX4_hissAt 2 (some .int) :: ((wsX4_hissAt_r1 ++ (wsX4_hissAt_r2 ++ wsX4_hissAt_r3)) ++ wsX40)
def wsX4_gradeFor_r1 : List Cond := [Cond.fieldLink RX4 25 "GooseCodexModel" "thrown" "I", Cond.methodLink RX4 110 yX4_isVisitor, Cond.instanceMethod yX4_isVisitor, Cond.selects RX4 yX4_isVisitor yX4_isVisitor, Cond.initialized RX4, Cond.code yX4_isVisitor cX4_isVisitor 2 (some .boolean), Cond.fieldLink RX4 39 "GooseCodexModel" "visitors" "I", Cond.methodLink RX4 32 yX4_isIn, Cond.static yX4_isIn, Cond.code yX4_isIn cX4_isIn 3 (some .boolean), Cond.methodLink RX4 135 yX4_hissNow, Cond.instanceMethod yX4_hissNow, Cond.selects RX4 yX4_hissNow yX4_hissNow, Cond.code yX4_hissNow cX4_hissNow 2 (some .int), Cond.fieldLink RX4 16 "GooseCodexModel" "own" "[I", Cond.methodLink RX4 67 yX4_isIn_, Cond.instanceMethod yX4_isIn_, Cond.selects RX4 yX4_isIn_ yX4_isIn_, Cond.code yX4_isIn_ cX4_isIn_ 2 (some .boolean), Cond.fieldLink RX4 29 "GooseCodexModel" "gates" "I", Cond.methodLink RX4 64 yX4_vi, Cond.instanceMethod yX4_vi, Cond.selects RX4 yX4_vi yX4_vi, Cond.code yX4_vi cX4_vi 3 (some .int)]
def wsX4_gradeFor_r2 : List Cond := [Cond.fieldLink RX4 19 "GooseCodexModel" "now" "[I", Cond.methodLink RX4 70 yX4_hiss, Cond.instanceMethod yX4_hiss, Cond.selects RX4 yX4_hiss yX4_hiss, Cond.code yX4_hiss cX4_hiss 5 (some .int), Cond.fieldLink RX4 36 "GooseCodexModel" "geese" "I", Cond.methodLink RX4 57 yX4_isAwake, Cond.instanceMethod yX4_isAwake, Cond.selects RX4 yX4_isAwake yX4_isAwake, Cond.code yX4_isAwake cX4_isAwake 3 (some .boolean), Cond.fieldLink RX4 13 "GooseCodexModel" "keeps" "[I", Cond.methodLink RX4 48 yX4_go, Cond.instanceMethod yX4_go, Cond.selects RX4 yX4_go yX4_go, Cond.code yX4_go cX4_go 3 (some .int), Cond.methodLink RX4 61 yX4_more, Cond.instanceMethod yX4_more, Cond.selects RX4 yX4_more yX4_more, Cond.code yX4_more cX4_more 3 (some .int), Cond.fieldLink RX4 9 "GooseCodexModel" "rank" "[I", Cond.methodLink RX4 52 Lib.Math.max.name, Cond.static Lib.Math.max.name, Cond.initialized "java/lang/Math", Cond.code Lib.Math.max.name Lib.Math.max.code 2 (some .int)]
def wsX4_gradeFor_r3 : List Cond := [Cond.methodLink RX4 91 yX4_grade, Cond.static yX4_grade, Cond.code yX4_grade cX4_grade 1 (some .int), Cond.methodLink RX4 101 yX4_fail, Cond.instanceMethod yX4_fail, Cond.selects RX4 yX4_fail yX4_fail, Cond.code yX4_fail cX4_fail 2 (some .int)]
def wsX4_gradeFor : List Cond := .code yX4_gradeFor cX4_gradeFor 2 (some .int) :: ((wsX4_gradeFor_r1 ++ (wsX4_gradeFor_r2 ++ wsX4_gradeFor_r3)) ++ wsX40)
def wsX4_dare_r1 : List Cond := [Cond.methodLink RX4 67 yX4_isIn_, Cond.instanceMethod yX4_isIn_, Cond.selects RX4 yX4_isIn_ yX4_isIn_, Cond.initialized RX4, Cond.code yX4_isIn_ cX4_isIn_ 2 (some .boolean), Cond.fieldLink RX4 29 "GooseCodexModel" "gates" "I", Cond.methodLink RX4 64 yX4_vi, Cond.instanceMethod yX4_vi, Cond.selects RX4 yX4_vi yX4_vi, Cond.code yX4_vi cX4_vi 3 (some .int), Cond.fieldLink RX4 19 "GooseCodexModel" "now" "[I", Cond.methodLink RX4 135 yX4_hissNow, Cond.instanceMethod yX4_hissNow, Cond.selects RX4 yX4_hissNow yX4_hissNow, Cond.code yX4_hissNow cX4_hissNow 2 (some .int), Cond.fieldLink RX4 16 "GooseCodexModel" "own" "[I", Cond.methodLink RX4 70 yX4_hiss, Cond.instanceMethod yX4_hiss, Cond.selects RX4 yX4_hiss yX4_hiss, Cond.code yX4_hiss cX4_hiss 5 (some .int), Cond.fieldLink RX4 36 "GooseCodexModel" "geese" "I", Cond.methodLink RX4 57 yX4_isAwake, Cond.instanceMethod yX4_isAwake, Cond.selects RX4 yX4_isAwake yX4_isAwake]
def wsX4_dare_r2 : List Cond := [Cond.code yX4_isAwake cX4_isAwake 3 (some .boolean), Cond.fieldLink RX4 13 "GooseCodexModel" "keeps" "[I", Cond.methodLink RX4 48 yX4_go, Cond.instanceMethod yX4_go, Cond.selects RX4 yX4_go yX4_go, Cond.code yX4_go cX4_go 3 (some .int), Cond.methodLink RX4 61 yX4_more, Cond.instanceMethod yX4_more, Cond.selects RX4 yX4_more yX4_more, Cond.code yX4_more cX4_more 3 (some .int), Cond.fieldLink RX4 9 "GooseCodexModel" "rank" "[I", Cond.methodLink RX4 52 Lib.Math.max.name, Cond.static Lib.Math.max.name, Cond.initialized "java/lang/Math", Cond.code Lib.Math.max.name Lib.Math.max.code 2 (some .int)]
def wsX4_dare : List Cond := .code yX4_dare cX4_dare 2 (some .boolean) :: ((wsX4_dare_r1 ++ wsX4_dare_r2) ++ wsX40)
def wsX4_dares_r1 : List Cond := [Cond.fieldLink RX4 25 "GooseCodexModel" "thrown" "I", Cond.methodLink RX4 110 yX4_isVisitor, Cond.instanceMethod yX4_isVisitor, Cond.selects RX4 yX4_isVisitor yX4_isVisitor, Cond.initialized RX4, Cond.code yX4_isVisitor cX4_isVisitor 2 (some .boolean), Cond.fieldLink RX4 39 "GooseCodexModel" "visitors" "I", Cond.methodLink RX4 32 yX4_isIn, Cond.static yX4_isIn, Cond.code yX4_isIn cX4_isIn 3 (some .boolean), Cond.methodLink RX4 138 yX4_dare, Cond.instanceMethod yX4_dare, Cond.selects RX4 yX4_dare yX4_dare, Cond.code yX4_dare cX4_dare 2 (some .boolean), Cond.methodLink RX4 67 yX4_isIn_, Cond.instanceMethod yX4_isIn_, Cond.selects RX4 yX4_isIn_ yX4_isIn_, Cond.code yX4_isIn_ cX4_isIn_ 2 (some .boolean), Cond.fieldLink RX4 29 "GooseCodexModel" "gates" "I", Cond.methodLink RX4 64 yX4_vi, Cond.instanceMethod yX4_vi, Cond.selects RX4 yX4_vi yX4_vi, Cond.code yX4_vi cX4_vi 3 (some .int), Cond.fieldLink RX4 19 "GooseCodexModel" "now" "[I"]
def wsX4_dares_r2 : List Cond := [Cond.methodLink RX4 135 yX4_hissNow, Cond.instanceMethod yX4_hissNow, Cond.selects RX4 yX4_hissNow yX4_hissNow, Cond.code yX4_hissNow cX4_hissNow 2 (some .int), Cond.fieldLink RX4 16 "GooseCodexModel" "own" "[I", Cond.methodLink RX4 70 yX4_hiss, Cond.instanceMethod yX4_hiss, Cond.selects RX4 yX4_hiss yX4_hiss, Cond.code yX4_hiss cX4_hiss 5 (some .int), Cond.fieldLink RX4 36 "GooseCodexModel" "geese" "I", Cond.methodLink RX4 57 yX4_isAwake, Cond.instanceMethod yX4_isAwake, Cond.selects RX4 yX4_isAwake yX4_isAwake, Cond.code yX4_isAwake cX4_isAwake 3 (some .boolean), Cond.fieldLink RX4 13 "GooseCodexModel" "keeps" "[I", Cond.methodLink RX4 48 yX4_go, Cond.instanceMethod yX4_go, Cond.selects RX4 yX4_go yX4_go, Cond.code yX4_go cX4_go 3 (some .int), Cond.methodLink RX4 61 yX4_more, Cond.instanceMethod yX4_more, Cond.selects RX4 yX4_more yX4_more, Cond.code yX4_more cX4_more 3 (some .int), Cond.fieldLink RX4 9 "GooseCodexModel" "rank" "[I"]
def wsX4_dares_r3 : List Cond := [Cond.methodLink RX4 52 Lib.Math.max.name, Cond.static Lib.Math.max.name, Cond.initialized "java/lang/Math", Cond.code Lib.Math.max.name Lib.Math.max.code 2 (some .int)]
def wsX4_dares : List Cond := .code yX4_dares cX4_dares 2 (some .boolean) :: ((wsX4_dares_r1 ++ (wsX4_dares_r2 ++ wsX4_dares_r3)) ++ wsX40)
def wsX4_run_r1 : List Cond := [Cond.methodLink RX4 67 yX4_isIn_, Cond.instanceMethod yX4_isIn_, Cond.selects RX4 yX4_isIn_ yX4_isIn_, Cond.initialized RX4, Cond.code yX4_isIn_ cX4_isIn_ 2 (some .boolean), Cond.fieldLink RX4 29 "GooseCodexModel" "gates" "I", Cond.methodLink RX4 64 yX4_vi, Cond.instanceMethod yX4_vi, Cond.selects RX4 yX4_vi yX4_vi, Cond.code yX4_vi cX4_vi 3 (some .int), Cond.fieldLink RX4 19 "GooseCodexModel" "now" "[I", Cond.methodLink RX4 98 yX4_beatOn, Cond.instanceMethod yX4_beatOn, Cond.selects RX4 yX4_beatOn yX4_beatOn, Cond.code yX4_beatOn cX4_beatOn 2 none, Cond.fieldLink RX4 36 "GooseCodexModel" "geese" "I", Cond.fieldLink RX4 39 "GooseCodexModel" "visitors" "I", Cond.methodLink RX4 48 yX4_go, Cond.instanceMethod yX4_go, Cond.selects RX4 yX4_go yX4_go, Cond.code yX4_go cX4_go 3 (some .int), Cond.methodLink RX4 77 yX4_put, Cond.instanceMethod yX4_put, Cond.selects RX4 yX4_put yX4_put]
def wsX4_run_r2 : List Cond := [Cond.code yX4_put cX4_put 4 none, Cond.methodLink RX4 94 yX4_move, Cond.instanceMethod yX4_move, Cond.selects RX4 yX4_move yX4_move, Cond.code yX4_move cX4_move 5 none, Cond.fieldLink RX4 16 "GooseCodexModel" "own" "[I", Cond.methodLink RX4 80 Lib.Math.min.name, Cond.static Lib.Math.min.name, Cond.initialized "java/lang/Math", Cond.code Lib.Math.min.name Lib.Math.min.code 2 (some .int), Cond.methodLink RX4 52 Lib.Math.max.name, Cond.static Lib.Math.max.name, Cond.code Lib.Math.max.name Lib.Math.max.code 2 (some .int), Cond.methodLink RX4 73 yX4_let, Cond.instanceMethod yX4_let, Cond.selects RX4 yX4_let yX4_let, Cond.code yX4_let cX4_let 4 none, Cond.methodLink RX4 70 yX4_hiss, Cond.instanceMethod yX4_hiss, Cond.selects RX4 yX4_hiss yX4_hiss, Cond.code yX4_hiss cX4_hiss 5 (some .int), Cond.methodLink RX4 57 yX4_isAwake, Cond.instanceMethod yX4_isAwake, Cond.selects RX4 yX4_isAwake yX4_isAwake]
def wsX4_run_r3 : List Cond := [Cond.code yX4_isAwake cX4_isAwake 3 (some .boolean), Cond.fieldLink RX4 13 "GooseCodexModel" "keeps" "[I", Cond.methodLink RX4 61 yX4_more, Cond.instanceMethod yX4_more, Cond.selects RX4 yX4_more yX4_more, Cond.code yX4_more cX4_more 3 (some .int), Cond.fieldLink RX4 9 "GooseCodexModel" "rank" "[I", Cond.methodLink RX4 83 yX4_angriest, Cond.instanceMethod yX4_angriest, Cond.selects RX4 yX4_angriest yX4_angriest, Cond.code yX4_angriest cX4_angriest 4 (some .int), Cond.methodLink RX4 87 yX4_feed, Cond.instanceMethod yX4_feed, Cond.selects RX4 yX4_feed yX4_feed, Cond.code yX4_feed cX4_feed 3 none, Cond.methodLink RX4 91 yX4_grade, Cond.static yX4_grade, Cond.code yX4_grade cX4_grade 1 (some .int)]
def wsX4_run : List Cond := .code yX4_run cX4_run 4 (some .int) :: ((wsX4_run_r1 ++ (wsX4_run_r2 ++ wsX4_run_r3)) ++ wsX40)
def wsX4_until_r1 : List Cond := [Cond.methodLink RX4 141 yX4_keep, Cond.instanceMethod yX4_keep, Cond.selects RX4 yX4_keep yX4_keep, Cond.initialized RX4, Cond.code yX4_keep cX4_keep 1 none, Cond.fieldLink RX4 19 "GooseCodexModel" "now" "[I", Cond.fieldLink RX4 22 "GooseCodexModel" "kept" "[I", Cond.methodLink RX4 42 arraycopyName, Cond.native arraycopyName, Cond.static arraycopyName, Cond.initialized "java/lang/System", Cond.methodLink RX4 144 yX4_run, Cond.instanceMethod yX4_run, Cond.selects RX4 yX4_run yX4_run, Cond.code yX4_run cX4_run 4 (some .int), Cond.methodLink RX4 67 yX4_isIn_, Cond.instanceMethod yX4_isIn_, Cond.selects RX4 yX4_isIn_ yX4_isIn_, Cond.code yX4_isIn_ cX4_isIn_ 2 (some .boolean), Cond.fieldLink RX4 29 "GooseCodexModel" "gates" "I", Cond.methodLink RX4 64 yX4_vi, Cond.instanceMethod yX4_vi, Cond.selects RX4 yX4_vi yX4_vi, Cond.code yX4_vi cX4_vi 3 (some .int)]
def wsX4_until_r2 : List Cond := [Cond.methodLink RX4 98 yX4_beatOn, Cond.instanceMethod yX4_beatOn, Cond.selects RX4 yX4_beatOn yX4_beatOn, Cond.code yX4_beatOn cX4_beatOn 2 none, Cond.fieldLink RX4 36 "GooseCodexModel" "geese" "I", Cond.fieldLink RX4 39 "GooseCodexModel" "visitors" "I", Cond.methodLink RX4 48 yX4_go, Cond.instanceMethod yX4_go, Cond.selects RX4 yX4_go yX4_go, Cond.code yX4_go cX4_go 3 (some .int), Cond.methodLink RX4 77 yX4_put, Cond.instanceMethod yX4_put, Cond.selects RX4 yX4_put yX4_put, Cond.code yX4_put cX4_put 4 none, Cond.methodLink RX4 94 yX4_move, Cond.instanceMethod yX4_move, Cond.selects RX4 yX4_move yX4_move, Cond.code yX4_move cX4_move 5 none, Cond.fieldLink RX4 16 "GooseCodexModel" "own" "[I", Cond.methodLink RX4 80 Lib.Math.min.name, Cond.static Lib.Math.min.name, Cond.initialized "java/lang/Math", Cond.code Lib.Math.min.name Lib.Math.min.code 2 (some .int), Cond.methodLink RX4 52 Lib.Math.max.name]
def wsX4_until_r3 : List Cond := [Cond.static Lib.Math.max.name, Cond.code Lib.Math.max.name Lib.Math.max.code 2 (some .int), Cond.methodLink RX4 73 yX4_let, Cond.instanceMethod yX4_let, Cond.selects RX4 yX4_let yX4_let, Cond.code yX4_let cX4_let 4 none, Cond.methodLink RX4 70 yX4_hiss, Cond.instanceMethod yX4_hiss, Cond.selects RX4 yX4_hiss yX4_hiss, Cond.code yX4_hiss cX4_hiss 5 (some .int), Cond.methodLink RX4 57 yX4_isAwake, Cond.instanceMethod yX4_isAwake, Cond.selects RX4 yX4_isAwake yX4_isAwake, Cond.code yX4_isAwake cX4_isAwake 3 (some .boolean), Cond.fieldLink RX4 13 "GooseCodexModel" "keeps" "[I", Cond.methodLink RX4 61 yX4_more, Cond.instanceMethod yX4_more, Cond.selects RX4 yX4_more yX4_more, Cond.code yX4_more cX4_more 3 (some .int), Cond.fieldLink RX4 9 "GooseCodexModel" "rank" "[I", Cond.methodLink RX4 83 yX4_angriest, Cond.instanceMethod yX4_angriest, Cond.selects RX4 yX4_angriest yX4_angriest, Cond.code yX4_angriest cX4_angriest 4 (some .int)]
def wsX4_until_r4 : List Cond := [Cond.methodLink RX4 87 yX4_feed, Cond.instanceMethod yX4_feed, Cond.selects RX4 yX4_feed yX4_feed, Cond.code yX4_feed cX4_feed 3 none, Cond.methodLink RX4 91 yX4_grade, Cond.static yX4_grade, Cond.code yX4_grade cX4_grade 1 (some .int), Cond.methodLink RX4 147 yX4_bringBack, Cond.instanceMethod yX4_bringBack, Cond.selects RX4 yX4_bringBack yX4_bringBack, Cond.code yX4_bringBack cX4_bringBack 1 none]
def wsX4_until : List Cond := .code yX4_until cX4_until 3 (some .int) :: ((wsX4_until_r1 ++ (wsX4_until_r2 ++ (wsX4_until_r3 ++ wsX4_until_r4))) ++ wsX40)
def wsX4_beatsUntilIn_r1 : List Cond := [Cond.fieldLink RX4 25 "GooseCodexModel" "thrown" "I", Cond.methodLink RX4 110 yX4_isVisitor, Cond.instanceMethod yX4_isVisitor, Cond.selects RX4 yX4_isVisitor yX4_isVisitor, Cond.initialized RX4, Cond.code yX4_isVisitor cX4_isVisitor 2 (some .boolean), Cond.fieldLink RX4 39 "GooseCodexModel" "visitors" "I", Cond.methodLink RX4 32 yX4_isIn, Cond.static yX4_isIn, Cond.code yX4_isIn cX4_isIn 3 (some .boolean), Cond.methodLink RX4 150 yX4_until, Cond.instanceMethod yX4_until, Cond.selects RX4 yX4_until yX4_until, Cond.code yX4_until cX4_until 3 (some .int), Cond.methodLink RX4 141 yX4_keep, Cond.instanceMethod yX4_keep, Cond.selects RX4 yX4_keep yX4_keep, Cond.code yX4_keep cX4_keep 1 none, Cond.fieldLink RX4 19 "GooseCodexModel" "now" "[I", Cond.fieldLink RX4 22 "GooseCodexModel" "kept" "[I", Cond.methodLink RX4 42 arraycopyName, Cond.native arraycopyName, Cond.static arraycopyName, Cond.initialized "java/lang/System"]
def wsX4_beatsUntilIn_r2 : List Cond := [Cond.methodLink RX4 144 yX4_run, Cond.instanceMethod yX4_run, Cond.selects RX4 yX4_run yX4_run, Cond.code yX4_run cX4_run 4 (some .int), Cond.methodLink RX4 67 yX4_isIn_, Cond.instanceMethod yX4_isIn_, Cond.selects RX4 yX4_isIn_ yX4_isIn_, Cond.code yX4_isIn_ cX4_isIn_ 2 (some .boolean), Cond.fieldLink RX4 29 "GooseCodexModel" "gates" "I", Cond.methodLink RX4 64 yX4_vi, Cond.instanceMethod yX4_vi, Cond.selects RX4 yX4_vi yX4_vi, Cond.code yX4_vi cX4_vi 3 (some .int), Cond.methodLink RX4 98 yX4_beatOn, Cond.instanceMethod yX4_beatOn, Cond.selects RX4 yX4_beatOn yX4_beatOn, Cond.code yX4_beatOn cX4_beatOn 2 none, Cond.fieldLink RX4 36 "GooseCodexModel" "geese" "I", Cond.methodLink RX4 48 yX4_go, Cond.instanceMethod yX4_go, Cond.selects RX4 yX4_go yX4_go, Cond.code yX4_go cX4_go 3 (some .int), Cond.methodLink RX4 77 yX4_put, Cond.instanceMethod yX4_put]
def wsX4_beatsUntilIn_r3 : List Cond := [Cond.selects RX4 yX4_put yX4_put, Cond.code yX4_put cX4_put 4 none, Cond.methodLink RX4 94 yX4_move, Cond.instanceMethod yX4_move, Cond.selects RX4 yX4_move yX4_move, Cond.code yX4_move cX4_move 5 none, Cond.fieldLink RX4 16 "GooseCodexModel" "own" "[I", Cond.methodLink RX4 80 Lib.Math.min.name, Cond.static Lib.Math.min.name, Cond.initialized "java/lang/Math", Cond.code Lib.Math.min.name Lib.Math.min.code 2 (some .int), Cond.methodLink RX4 52 Lib.Math.max.name, Cond.static Lib.Math.max.name, Cond.code Lib.Math.max.name Lib.Math.max.code 2 (some .int), Cond.methodLink RX4 73 yX4_let, Cond.instanceMethod yX4_let, Cond.selects RX4 yX4_let yX4_let, Cond.code yX4_let cX4_let 4 none, Cond.methodLink RX4 70 yX4_hiss, Cond.instanceMethod yX4_hiss, Cond.selects RX4 yX4_hiss yX4_hiss, Cond.code yX4_hiss cX4_hiss 5 (some .int), Cond.methodLink RX4 57 yX4_isAwake, Cond.instanceMethod yX4_isAwake]
def wsX4_beatsUntilIn_r4 : List Cond := [Cond.selects RX4 yX4_isAwake yX4_isAwake, Cond.code yX4_isAwake cX4_isAwake 3 (some .boolean), Cond.fieldLink RX4 13 "GooseCodexModel" "keeps" "[I", Cond.methodLink RX4 61 yX4_more, Cond.instanceMethod yX4_more, Cond.selects RX4 yX4_more yX4_more, Cond.code yX4_more cX4_more 3 (some .int), Cond.fieldLink RX4 9 "GooseCodexModel" "rank" "[I", Cond.methodLink RX4 83 yX4_angriest, Cond.instanceMethod yX4_angriest, Cond.selects RX4 yX4_angriest yX4_angriest, Cond.code yX4_angriest cX4_angriest 4 (some .int), Cond.methodLink RX4 87 yX4_feed, Cond.instanceMethod yX4_feed, Cond.selects RX4 yX4_feed yX4_feed, Cond.code yX4_feed cX4_feed 3 none, Cond.methodLink RX4 91 yX4_grade, Cond.static yX4_grade, Cond.code yX4_grade cX4_grade 1 (some .int), Cond.methodLink RX4 147 yX4_bringBack, Cond.instanceMethod yX4_bringBack, Cond.selects RX4 yX4_bringBack yX4_bringBack, Cond.code yX4_bringBack cX4_bringBack 1 none, Cond.methodLink RX4 101 yX4_fail]
def wsX4_beatsUntilIn_r5 : List Cond := [Cond.instanceMethod yX4_fail, Cond.selects RX4 yX4_fail yX4_fail, Cond.code yX4_fail cX4_fail 2 (some .int)]
def wsX4_beatsUntilIn : List Cond := .code yX4_beatsUntilIn cX4_beatsUntilIn 2 (some .int) :: ((wsX4_beatsUntilIn_r1 ++ (wsX4_beatsUntilIn_r2 ++ (wsX4_beatsUntilIn_r3 ++ (wsX4_beatsUntilIn_r4 ++ wsX4_beatsUntilIn_r5)))) ++ wsX40)
def wsX4_inFarmAfter_r1 : List Cond := [Cond.fieldLink RX4 25 "GooseCodexModel" "thrown" "I", Cond.methodLink RX4 32 yX4_isIn, Cond.static yX4_isIn, Cond.initialized RX4, Cond.code yX4_isIn cX4_isIn 3 (some .boolean), Cond.methodLink RX4 101 yX4_fail, Cond.instanceMethod yX4_fail, Cond.selects RX4 yX4_fail yX4_fail, Cond.code yX4_fail cX4_fail 2 (some .int), Cond.methodLink RX4 141 yX4_keep, Cond.instanceMethod yX4_keep, Cond.selects RX4 yX4_keep yX4_keep, Cond.code yX4_keep cX4_keep 1 none, Cond.fieldLink RX4 19 "GooseCodexModel" "now" "[I", Cond.fieldLink RX4 22 "GooseCodexModel" "kept" "[I", Cond.methodLink RX4 42 arraycopyName, Cond.native arraycopyName, Cond.static arraycopyName, Cond.initialized "java/lang/System", Cond.methodLink RX4 117 yX4_beatsOn, Cond.instanceMethod yX4_beatsOn, Cond.selects RX4 yX4_beatsOn yX4_beatsOn, Cond.code yX4_beatsOn cX4_beatsOn 3 none, Cond.methodLink RX4 98 yX4_beatOn]
def wsX4_inFarmAfter_r2 : List Cond := [Cond.instanceMethod yX4_beatOn, Cond.selects RX4 yX4_beatOn yX4_beatOn, Cond.code yX4_beatOn cX4_beatOn 2 none, Cond.fieldLink RX4 36 "GooseCodexModel" "geese" "I", Cond.fieldLink RX4 39 "GooseCodexModel" "visitors" "I", Cond.methodLink RX4 48 yX4_go, Cond.instanceMethod yX4_go, Cond.selects RX4 yX4_go yX4_go, Cond.code yX4_go cX4_go 3 (some .int), Cond.methodLink RX4 77 yX4_put, Cond.instanceMethod yX4_put, Cond.selects RX4 yX4_put yX4_put, Cond.code yX4_put cX4_put 4 none, Cond.methodLink RX4 94 yX4_move, Cond.instanceMethod yX4_move, Cond.selects RX4 yX4_move yX4_move, Cond.code yX4_move cX4_move 5 none, Cond.fieldLink RX4 16 "GooseCodexModel" "own" "[I", Cond.methodLink RX4 80 Lib.Math.min.name, Cond.static Lib.Math.min.name, Cond.initialized "java/lang/Math", Cond.code Lib.Math.min.name Lib.Math.min.code 2 (some .int), Cond.methodLink RX4 52 Lib.Math.max.name, Cond.static Lib.Math.max.name]
def wsX4_inFarmAfter_r3 : List Cond := [Cond.code Lib.Math.max.name Lib.Math.max.code 2 (some .int), Cond.methodLink RX4 67 yX4_isIn_, Cond.instanceMethod yX4_isIn_, Cond.selects RX4 yX4_isIn_ yX4_isIn_, Cond.code yX4_isIn_ cX4_isIn_ 2 (some .boolean), Cond.fieldLink RX4 29 "GooseCodexModel" "gates" "I", Cond.methodLink RX4 64 yX4_vi, Cond.instanceMethod yX4_vi, Cond.selects RX4 yX4_vi yX4_vi, Cond.code yX4_vi cX4_vi 3 (some .int), Cond.methodLink RX4 73 yX4_let, Cond.instanceMethod yX4_let, Cond.selects RX4 yX4_let yX4_let, Cond.code yX4_let cX4_let 4 none, Cond.methodLink RX4 70 yX4_hiss, Cond.instanceMethod yX4_hiss, Cond.selects RX4 yX4_hiss yX4_hiss, Cond.code yX4_hiss cX4_hiss 5 (some .int), Cond.methodLink RX4 57 yX4_isAwake, Cond.instanceMethod yX4_isAwake, Cond.selects RX4 yX4_isAwake yX4_isAwake, Cond.code yX4_isAwake cX4_isAwake 3 (some .boolean), Cond.fieldLink RX4 13 "GooseCodexModel" "keeps" "[I", Cond.methodLink RX4 61 yX4_more]
def wsX4_inFarmAfter_r4 : List Cond := [Cond.instanceMethod yX4_more, Cond.selects RX4 yX4_more yX4_more, Cond.code yX4_more cX4_more 3 (some .int), Cond.fieldLink RX4 9 "GooseCodexModel" "rank" "[I", Cond.methodLink RX4 83 yX4_angriest, Cond.instanceMethod yX4_angriest, Cond.selects RX4 yX4_angriest yX4_angriest, Cond.code yX4_angriest cX4_angriest 4 (some .int), Cond.methodLink RX4 87 yX4_feed, Cond.instanceMethod yX4_feed, Cond.selects RX4 yX4_feed yX4_feed, Cond.code yX4_feed cX4_feed 3 none, Cond.methodLink RX4 91 yX4_grade, Cond.static yX4_grade, Cond.code yX4_grade cX4_grade 1 (some .int), Cond.methodLink RX4 113 yX4_inside, Cond.instanceMethod yX4_inside, Cond.selects RX4 yX4_inside yX4_inside, Cond.code yX4_inside cX4_inside 3 (some .int), Cond.methodLink RX4 147 yX4_bringBack, Cond.instanceMethod yX4_bringBack, Cond.selects RX4 yX4_bringBack yX4_bringBack, Cond.code yX4_bringBack cX4_bringBack 1 none]
def wsX4_inFarmAfter : List Cond := .code yX4_inFarmAfter cX4_inFarmAfter 3 (some .int) :: ((wsX4_inFarmAfter_r1 ++ (wsX4_inFarmAfter_r2 ++ (wsX4_inFarmAfter_r3 ++ wsX4_inFarmAfter_r4))) ++ wsX40)
def wsX4_cornsWanted_r1 : List Cond := [Cond.fieldLink RX4 25 "GooseCodexModel" "thrown" "I", Cond.methodLink RX4 110 yX4_isVisitor, Cond.instanceMethod yX4_isVisitor, Cond.selects RX4 yX4_isVisitor yX4_isVisitor, Cond.initialized RX4, Cond.code yX4_isVisitor cX4_isVisitor 2 (some .boolean), Cond.fieldLink RX4 39 "GooseCodexModel" "visitors" "I", Cond.methodLink RX4 32 yX4_isIn, Cond.static yX4_isIn, Cond.code yX4_isIn cX4_isIn 3 (some .boolean), Cond.methodLink RX4 101 yX4_fail, Cond.instanceMethod yX4_fail, Cond.selects RX4 yX4_fail yX4_fail, Cond.code yX4_fail cX4_fail 2 (some .int), Cond.methodLink RX4 141 yX4_keep, Cond.instanceMethod yX4_keep, Cond.selects RX4 yX4_keep yX4_keep, Cond.code yX4_keep cX4_keep 1 none, Cond.fieldLink RX4 19 "GooseCodexModel" "now" "[I", Cond.fieldLink RX4 22 "GooseCodexModel" "kept" "[I", Cond.methodLink RX4 42 arraycopyName, Cond.native arraycopyName, Cond.static arraycopyName, Cond.initialized "java/lang/System"]
def wsX4_cornsWanted_r2 : List Cond := [Cond.methodLink RX4 73 yX4_let, Cond.instanceMethod yX4_let, Cond.selects RX4 yX4_let yX4_let, Cond.code yX4_let cX4_let 4 none, Cond.methodLink RX4 144 yX4_run, Cond.instanceMethod yX4_run, Cond.selects RX4 yX4_run yX4_run, Cond.code yX4_run cX4_run 4 (some .int), Cond.methodLink RX4 67 yX4_isIn_, Cond.instanceMethod yX4_isIn_, Cond.selects RX4 yX4_isIn_ yX4_isIn_, Cond.code yX4_isIn_ cX4_isIn_ 2 (some .boolean), Cond.fieldLink RX4 29 "GooseCodexModel" "gates" "I", Cond.methodLink RX4 64 yX4_vi, Cond.instanceMethod yX4_vi, Cond.selects RX4 yX4_vi yX4_vi, Cond.code yX4_vi cX4_vi 3 (some .int), Cond.methodLink RX4 98 yX4_beatOn, Cond.instanceMethod yX4_beatOn, Cond.selects RX4 yX4_beatOn yX4_beatOn, Cond.code yX4_beatOn cX4_beatOn 2 none, Cond.fieldLink RX4 36 "GooseCodexModel" "geese" "I", Cond.methodLink RX4 48 yX4_go, Cond.instanceMethod yX4_go]
def wsX4_cornsWanted_r3 : List Cond := [Cond.selects RX4 yX4_go yX4_go, Cond.code yX4_go cX4_go 3 (some .int), Cond.methodLink RX4 77 yX4_put, Cond.instanceMethod yX4_put, Cond.selects RX4 yX4_put yX4_put, Cond.code yX4_put cX4_put 4 none, Cond.methodLink RX4 94 yX4_move, Cond.instanceMethod yX4_move, Cond.selects RX4 yX4_move yX4_move, Cond.code yX4_move cX4_move 5 none, Cond.fieldLink RX4 16 "GooseCodexModel" "own" "[I", Cond.methodLink RX4 80 Lib.Math.min.name, Cond.static Lib.Math.min.name, Cond.initialized "java/lang/Math", Cond.code Lib.Math.min.name Lib.Math.min.code 2 (some .int), Cond.methodLink RX4 52 Lib.Math.max.name, Cond.static Lib.Math.max.name, Cond.code Lib.Math.max.name Lib.Math.max.code 2 (some .int), Cond.methodLink RX4 70 yX4_hiss, Cond.instanceMethod yX4_hiss, Cond.selects RX4 yX4_hiss yX4_hiss, Cond.code yX4_hiss cX4_hiss 5 (some .int), Cond.methodLink RX4 57 yX4_isAwake, Cond.instanceMethod yX4_isAwake]
def wsX4_cornsWanted_r4 : List Cond := [Cond.selects RX4 yX4_isAwake yX4_isAwake, Cond.code yX4_isAwake cX4_isAwake 3 (some .boolean), Cond.fieldLink RX4 13 "GooseCodexModel" "keeps" "[I", Cond.methodLink RX4 61 yX4_more, Cond.instanceMethod yX4_more, Cond.selects RX4 yX4_more yX4_more, Cond.code yX4_more cX4_more 3 (some .int), Cond.fieldLink RX4 9 "GooseCodexModel" "rank" "[I", Cond.methodLink RX4 83 yX4_angriest, Cond.instanceMethod yX4_angriest, Cond.selects RX4 yX4_angriest yX4_angriest, Cond.code yX4_angriest cX4_angriest 4 (some .int), Cond.methodLink RX4 87 yX4_feed, Cond.instanceMethod yX4_feed, Cond.selects RX4 yX4_feed yX4_feed, Cond.code yX4_feed cX4_feed 3 none, Cond.methodLink RX4 91 yX4_grade, Cond.static yX4_grade, Cond.code yX4_grade cX4_grade 1 (some .int), Cond.methodLink RX4 147 yX4_bringBack, Cond.instanceMethod yX4_bringBack, Cond.selects RX4 yX4_bringBack yX4_bringBack, Cond.code yX4_bringBack cX4_bringBack 1 none]
def wsX4_cornsWanted : List Cond := .code yX4_cornsWanted cX4_cornsWanted 4 (some .int) :: ((wsX4_cornsWanted_r1 ++ (wsX4_cornsWanted_r2 ++ (wsX4_cornsWanted_r3 ++ wsX4_cornsWanted_r4))) ++ wsX40)
def wsX4_toBribe_r1 : List Cond := [Cond.methodLink RX4 67 yX4_isIn_, Cond.instanceMethod yX4_isIn_, Cond.selects RX4 yX4_isIn_ yX4_isIn_, Cond.initialized RX4, Cond.code yX4_isIn_ cX4_isIn_ 2 (some .boolean), Cond.fieldLink RX4 29 "GooseCodexModel" "gates" "I", Cond.methodLink RX4 64 yX4_vi, Cond.instanceMethod yX4_vi, Cond.selects RX4 yX4_vi yX4_vi, Cond.code yX4_vi cX4_vi 3 (some .int), Cond.fieldLink RX4 19 "GooseCodexModel" "now" "[I", Cond.methodLink RX4 83 yX4_angriest, Cond.instanceMethod yX4_angriest, Cond.selects RX4 yX4_angriest yX4_angriest, Cond.code yX4_angriest cX4_angriest 4 (some .int), Cond.fieldLink RX4 36 "GooseCodexModel" "geese" "I", Cond.methodLink RX4 57 yX4_isAwake, Cond.instanceMethod yX4_isAwake, Cond.selects RX4 yX4_isAwake yX4_isAwake, Cond.code yX4_isAwake cX4_isAwake 3 (some .boolean), Cond.fieldLink RX4 13 "GooseCodexModel" "keeps" "[I", Cond.methodLink RX4 48 yX4_go, Cond.instanceMethod yX4_go, Cond.selects RX4 yX4_go yX4_go]
def wsX4_toBribe_r2 : List Cond := [Cond.code yX4_go cX4_go 3 (some .int)]
def wsX4_toBribe : List Cond := .code yX4_toBribe cX4_toBribe 2 (some .int) :: ((wsX4_toBribe_r1 ++ wsX4_toBribe_r2) ++ wsX40)
def wsX4_bestToBribe_r1 : List Cond := [Cond.fieldLink RX4 25 "GooseCodexModel" "thrown" "I", Cond.methodLink RX4 110 yX4_isVisitor, Cond.instanceMethod yX4_isVisitor, Cond.selects RX4 yX4_isVisitor yX4_isVisitor, Cond.initialized RX4, Cond.code yX4_isVisitor cX4_isVisitor 2 (some .boolean), Cond.fieldLink RX4 39 "GooseCodexModel" "visitors" "I", Cond.methodLink RX4 32 yX4_isIn, Cond.static yX4_isIn, Cond.code yX4_isIn cX4_isIn 3 (some .boolean), Cond.methodLink RX4 153 yX4_toBribe, Cond.instanceMethod yX4_toBribe, Cond.selects RX4 yX4_toBribe yX4_toBribe, Cond.code yX4_toBribe cX4_toBribe 2 (some .int), Cond.methodLink RX4 67 yX4_isIn_, Cond.instanceMethod yX4_isIn_, Cond.selects RX4 yX4_isIn_ yX4_isIn_, Cond.code yX4_isIn_ cX4_isIn_ 2 (some .boolean), Cond.fieldLink RX4 29 "GooseCodexModel" "gates" "I", Cond.methodLink RX4 64 yX4_vi, Cond.instanceMethod yX4_vi, Cond.selects RX4 yX4_vi yX4_vi, Cond.code yX4_vi cX4_vi 3 (some .int), Cond.fieldLink RX4 19 "GooseCodexModel" "now" "[I"]
def wsX4_bestToBribe_r2 : List Cond := [Cond.methodLink RX4 83 yX4_angriest, Cond.instanceMethod yX4_angriest, Cond.selects RX4 yX4_angriest yX4_angriest, Cond.code yX4_angriest cX4_angriest 4 (some .int), Cond.fieldLink RX4 36 "GooseCodexModel" "geese" "I", Cond.methodLink RX4 57 yX4_isAwake, Cond.instanceMethod yX4_isAwake, Cond.selects RX4 yX4_isAwake yX4_isAwake, Cond.code yX4_isAwake cX4_isAwake 3 (some .boolean), Cond.fieldLink RX4 13 "GooseCodexModel" "keeps" "[I", Cond.methodLink RX4 48 yX4_go, Cond.instanceMethod yX4_go, Cond.selects RX4 yX4_go yX4_go, Cond.code yX4_go cX4_go 3 (some .int), Cond.methodLink RX4 101 yX4_fail, Cond.instanceMethod yX4_fail, Cond.selects RX4 yX4_fail yX4_fail, Cond.code yX4_fail cX4_fail 2 (some .int)]
def wsX4_bestToBribe : List Cond := .code yX4_bestToBribe cX4_bestToBribe 2 (some .int) :: ((wsX4_bestToBribe_r1 ++ wsX4_bestToBribe_r2) ++ wsX40)
def wsX4_calmWanted_r1 : List Cond := [Cond.arrayClass .int, Cond.fieldLink RX4 36 "GooseCodexModel" "geese" "I", Cond.fieldLink RX4 16 "GooseCodexModel" "own" "[I", Cond.methodLink RX4 67 yX4_isIn_, Cond.instanceMethod yX4_isIn_, Cond.selects RX4 yX4_isIn_ yX4_isIn_, Cond.initialized RX4, Cond.code yX4_isIn_ cX4_isIn_ 2 (some .boolean), Cond.fieldLink RX4 29 "GooseCodexModel" "gates" "I", Cond.methodLink RX4 64 yX4_vi, Cond.instanceMethod yX4_vi, Cond.selects RX4 yX4_vi yX4_vi, Cond.code yX4_vi cX4_vi 3 (some .int), Cond.fieldLink RX4 19 "GooseCodexModel" "now" "[I", Cond.methodLink RX4 135 yX4_hissNow, Cond.instanceMethod yX4_hissNow, Cond.selects RX4 yX4_hissNow yX4_hissNow, Cond.code yX4_hissNow cX4_hissNow 2 (some .int), Cond.methodLink RX4 70 yX4_hiss, Cond.instanceMethod yX4_hiss, Cond.selects RX4 yX4_hiss yX4_hiss, Cond.code yX4_hiss cX4_hiss 5 (some .int), Cond.methodLink RX4 57 yX4_isAwake, Cond.instanceMethod yX4_isAwake]
def wsX4_calmWanted_r2 : List Cond := [Cond.selects RX4 yX4_isAwake yX4_isAwake, Cond.code yX4_isAwake cX4_isAwake 3 (some .boolean), Cond.fieldLink RX4 13 "GooseCodexModel" "keeps" "[I", Cond.methodLink RX4 48 yX4_go, Cond.instanceMethod yX4_go, Cond.selects RX4 yX4_go yX4_go, Cond.code yX4_go cX4_go 3 (some .int), Cond.methodLink RX4 61 yX4_more, Cond.instanceMethod yX4_more, Cond.selects RX4 yX4_more yX4_more, Cond.code yX4_more cX4_more 3 (some .int), Cond.fieldLink RX4 9 "GooseCodexModel" "rank" "[I", Cond.methodLink RX4 52 Lib.Math.max.name, Cond.static Lib.Math.max.name, Cond.initialized "java/lang/Math", Cond.code Lib.Math.max.name Lib.Math.max.code 2 (some .int)]
def wsX4_calmWanted : List Cond := .code yX4_calmWanted cX4_calmWanted 8 (some .int) :: ((wsX4_calmWanted_r1 ++ wsX4_calmWanted_r2) ++ wsX40)
def wsX4_bribesWanted_r1 : List Cond := [Cond.fieldLink RX4 25 "GooseCodexModel" "thrown" "I", Cond.methodLink RX4 110 yX4_isVisitor, Cond.instanceMethod yX4_isVisitor, Cond.selects RX4 yX4_isVisitor yX4_isVisitor, Cond.initialized RX4, Cond.code yX4_isVisitor cX4_isVisitor 2 (some .boolean), Cond.fieldLink RX4 39 "GooseCodexModel" "visitors" "I", Cond.methodLink RX4 32 yX4_isIn, Cond.static yX4_isIn, Cond.code yX4_isIn cX4_isIn 3 (some .boolean), Cond.methodLink RX4 156 yX4_calmWanted, Cond.instanceMethod yX4_calmWanted, Cond.selects RX4 yX4_calmWanted yX4_calmWanted, Cond.code yX4_calmWanted cX4_calmWanted 8 (some .int), Cond.arrayClass .int, Cond.fieldLink RX4 36 "GooseCodexModel" "geese" "I", Cond.fieldLink RX4 16 "GooseCodexModel" "own" "[I", Cond.methodLink RX4 67 yX4_isIn_, Cond.instanceMethod yX4_isIn_, Cond.selects RX4 yX4_isIn_ yX4_isIn_, Cond.code yX4_isIn_ cX4_isIn_ 2 (some .boolean), Cond.fieldLink RX4 29 "GooseCodexModel" "gates" "I", Cond.methodLink RX4 64 yX4_vi, Cond.instanceMethod yX4_vi]
def wsX4_bribesWanted_r2 : List Cond := [Cond.selects RX4 yX4_vi yX4_vi, Cond.code yX4_vi cX4_vi 3 (some .int), Cond.fieldLink RX4 19 "GooseCodexModel" "now" "[I", Cond.methodLink RX4 135 yX4_hissNow, Cond.instanceMethod yX4_hissNow, Cond.selects RX4 yX4_hissNow yX4_hissNow, Cond.code yX4_hissNow cX4_hissNow 2 (some .int), Cond.methodLink RX4 70 yX4_hiss, Cond.instanceMethod yX4_hiss, Cond.selects RX4 yX4_hiss yX4_hiss, Cond.code yX4_hiss cX4_hiss 5 (some .int), Cond.methodLink RX4 57 yX4_isAwake, Cond.instanceMethod yX4_isAwake, Cond.selects RX4 yX4_isAwake yX4_isAwake, Cond.code yX4_isAwake cX4_isAwake 3 (some .boolean), Cond.fieldLink RX4 13 "GooseCodexModel" "keeps" "[I", Cond.methodLink RX4 48 yX4_go, Cond.instanceMethod yX4_go, Cond.selects RX4 yX4_go yX4_go, Cond.code yX4_go cX4_go 3 (some .int), Cond.methodLink RX4 61 yX4_more, Cond.instanceMethod yX4_more, Cond.selects RX4 yX4_more yX4_more, Cond.code yX4_more cX4_more 3 (some .int)]
def wsX4_bribesWanted_r3 : List Cond := [Cond.fieldLink RX4 9 "GooseCodexModel" "rank" "[I", Cond.methodLink RX4 52 Lib.Math.max.name, Cond.static Lib.Math.max.name, Cond.initialized "java/lang/Math", Cond.code Lib.Math.max.name Lib.Math.max.code 2 (some .int), Cond.methodLink RX4 101 yX4_fail, Cond.instanceMethod yX4_fail, Cond.selects RX4 yX4_fail yX4_fail, Cond.code yX4_fail cX4_fail 2 (some .int)]
def wsX4_bribesWanted : List Cond := .code yX4_bribesWanted cX4_bribesWanted 2 (some .int) :: ((wsX4_bribesWanted_r1 ++ (wsX4_bribesWanted_r2 ++ wsX4_bribesWanted_r3)) ++ wsX40)
def wsX4_ranked_r1 : List Cond := [Cond.methodLink RX4 67 yX4_isIn_, Cond.instanceMethod yX4_isIn_, Cond.selects RX4 yX4_isIn_ yX4_isIn_, Cond.initialized RX4, Cond.code yX4_isIn_ cX4_isIn_ 2 (some .boolean), Cond.fieldLink RX4 29 "GooseCodexModel" "gates" "I", Cond.methodLink RX4 64 yX4_vi, Cond.instanceMethod yX4_vi, Cond.selects RX4 yX4_vi yX4_vi, Cond.code yX4_vi cX4_vi 3 (some .int), Cond.fieldLink RX4 19 "GooseCodexModel" "now" "[I", Cond.methodLink RX4 70 yX4_hiss, Cond.instanceMethod yX4_hiss, Cond.selects RX4 yX4_hiss yX4_hiss, Cond.code yX4_hiss cX4_hiss 5 (some .int), Cond.fieldLink RX4 36 "GooseCodexModel" "geese" "I", Cond.methodLink RX4 57 yX4_isAwake, Cond.instanceMethod yX4_isAwake, Cond.selects RX4 yX4_isAwake yX4_isAwake, Cond.code yX4_isAwake cX4_isAwake 3 (some .boolean), Cond.fieldLink RX4 13 "GooseCodexModel" "keeps" "[I", Cond.methodLink RX4 48 yX4_go, Cond.instanceMethod yX4_go, Cond.selects RX4 yX4_go yX4_go]
def wsX4_ranked_r2 : List Cond := [Cond.code yX4_go cX4_go 3 (some .int), Cond.methodLink RX4 61 yX4_more, Cond.instanceMethod yX4_more, Cond.selects RX4 yX4_more yX4_more, Cond.code yX4_more cX4_more 3 (some .int), Cond.fieldLink RX4 9 "GooseCodexModel" "rank" "[I", Cond.methodLink RX4 52 Lib.Math.max.name, Cond.static Lib.Math.max.name, Cond.initialized "java/lang/Math", Cond.code Lib.Math.max.name Lib.Math.max.code 2 (some .int)]
def wsX4_ranked : List Cond := .code yX4_ranked cX4_ranked 3 (some .int) :: ((wsX4_ranked_r1 ++ wsX4_ranked_r2) ++ wsX40)
def wsX4_rankWanted_r1 : List Cond := [Cond.fieldLink RX4 25 "GooseCodexModel" "thrown" "I", Cond.methodLink RX4 110 yX4_isVisitor, Cond.instanceMethod yX4_isVisitor, Cond.selects RX4 yX4_isVisitor yX4_isVisitor, Cond.initialized RX4, Cond.code yX4_isVisitor cX4_isVisitor 2 (some .boolean), Cond.fieldLink RX4 39 "GooseCodexModel" "visitors" "I", Cond.methodLink RX4 32 yX4_isIn, Cond.static yX4_isIn, Cond.code yX4_isIn cX4_isIn 3 (some .boolean), Cond.methodLink RX4 159 yX4_ranked, Cond.instanceMethod yX4_ranked, Cond.selects RX4 yX4_ranked yX4_ranked, Cond.code yX4_ranked cX4_ranked 3 (some .int), Cond.methodLink RX4 67 yX4_isIn_, Cond.instanceMethod yX4_isIn_, Cond.selects RX4 yX4_isIn_ yX4_isIn_, Cond.code yX4_isIn_ cX4_isIn_ 2 (some .boolean), Cond.fieldLink RX4 29 "GooseCodexModel" "gates" "I", Cond.methodLink RX4 64 yX4_vi, Cond.instanceMethod yX4_vi, Cond.selects RX4 yX4_vi yX4_vi, Cond.code yX4_vi cX4_vi 3 (some .int), Cond.fieldLink RX4 19 "GooseCodexModel" "now" "[I"]
def wsX4_rankWanted_r2 : List Cond := [Cond.methodLink RX4 70 yX4_hiss, Cond.instanceMethod yX4_hiss, Cond.selects RX4 yX4_hiss yX4_hiss, Cond.code yX4_hiss cX4_hiss 5 (some .int), Cond.fieldLink RX4 36 "GooseCodexModel" "geese" "I", Cond.methodLink RX4 57 yX4_isAwake, Cond.instanceMethod yX4_isAwake, Cond.selects RX4 yX4_isAwake yX4_isAwake, Cond.code yX4_isAwake cX4_isAwake 3 (some .boolean), Cond.fieldLink RX4 13 "GooseCodexModel" "keeps" "[I", Cond.methodLink RX4 48 yX4_go, Cond.instanceMethod yX4_go, Cond.selects RX4 yX4_go yX4_go, Cond.code yX4_go cX4_go 3 (some .int), Cond.methodLink RX4 61 yX4_more, Cond.instanceMethod yX4_more, Cond.selects RX4 yX4_more yX4_more, Cond.code yX4_more cX4_more 3 (some .int), Cond.fieldLink RX4 9 "GooseCodexModel" "rank" "[I", Cond.methodLink RX4 52 Lib.Math.max.name, Cond.static Lib.Math.max.name, Cond.initialized "java/lang/Math", Cond.code Lib.Math.max.name Lib.Math.max.code 2 (some .int), Cond.methodLink RX4 101 yX4_fail]
def wsX4_rankWanted_r3 : List Cond := [Cond.instanceMethod yX4_fail, Cond.selects RX4 yX4_fail yX4_fail, Cond.code yX4_fail cX4_fail 2 (some .int)]
def wsX4_rankWanted : List Cond := .code yX4_rankWanted cX4_rankWanted 2 (some .int) :: ((wsX4_rankWanted_r1 ++ (wsX4_rankWanted_r2 ++ wsX4_rankWanted_r3)) ++ wsX40)
def wsX4_firstBar_r1 : List Cond := [Cond.fieldLink RX4 25 "GooseCodexModel" "thrown" "I", Cond.fieldLink RX4 29 "GooseCodexModel" "gates" "I", Cond.methodLink RX4 32 yX4_isIn, Cond.static yX4_isIn, Cond.initialized RX4, Cond.code yX4_isIn cX4_isIn 3 (some .boolean), Cond.methodLink RX4 101 yX4_fail, Cond.instanceMethod yX4_fail, Cond.selects RX4 yX4_fail yX4_fail, Cond.code yX4_fail cX4_fail 2 (some .int), Cond.methodLink RX4 70 yX4_hiss, Cond.instanceMethod yX4_hiss, Cond.selects RX4 yX4_hiss yX4_hiss, Cond.code yX4_hiss cX4_hiss 5 (some .int), Cond.fieldLink RX4 36 "GooseCodexModel" "geese" "I", Cond.methodLink RX4 57 yX4_isAwake, Cond.instanceMethod yX4_isAwake, Cond.selects RX4 yX4_isAwake yX4_isAwake, Cond.code yX4_isAwake cX4_isAwake 3 (some .boolean), Cond.fieldLink RX4 13 "GooseCodexModel" "keeps" "[I", Cond.methodLink RX4 48 yX4_go, Cond.instanceMethod yX4_go, Cond.selects RX4 yX4_go yX4_go, Cond.code yX4_go cX4_go 3 (some .int)]
def wsX4_firstBar_r2 : List Cond := [Cond.fieldLink RX4 19 "GooseCodexModel" "now" "[I", Cond.methodLink RX4 61 yX4_more, Cond.instanceMethod yX4_more, Cond.selects RX4 yX4_more yX4_more, Cond.code yX4_more cX4_more 3 (some .int), Cond.fieldLink RX4 9 "GooseCodexModel" "rank" "[I", Cond.methodLink RX4 52 Lib.Math.max.name, Cond.static Lib.Math.max.name, Cond.initialized "java/lang/Math", Cond.code Lib.Math.max.name Lib.Math.max.code 2 (some .int)]
def wsX4_firstBar : List Cond := .code yX4_firstBar cX4_firstBar 4 (some .int) :: ((wsX4_firstBar_r1 ++ wsX4_firstBar_r2) ++ wsX40)
def wsX4_meanTemper : List Cond := .code yX4_meanTemper cX4_meanTemper 3 (some .double) :: ([.fieldLink RX4 25 "GooseCodexModel" "thrown" "I", .fieldLink RX4 36 "GooseCodexModel" "geese" "I", .methodLink RX4 48 yX4_go, .instanceMethod yX4_go, .selects RX4 yX4_go yX4_go, .initialized RX4, .code yX4_go cX4_go 3 (some .int), .fieldLink RX4 19 "GooseCodexModel" "now" "[I"] ++ wsX40)
def wsX4_digest_r1 : List Cond := [Cond.fieldLink RX4 25 "GooseCodexModel" "thrown" "I", Cond.arrayClass .int, Cond.fieldLink RX4 19 "GooseCodexModel" "now" "[I", Cond.fieldLink RX4 29 "GooseCodexModel" "gates" "I", Cond.fieldLink RX4 36 "GooseCodexModel" "geese" "I", Cond.fieldLink RX4 39 "GooseCodexModel" "visitors" "I", Cond.constantLong RX4 162 (1973), Cond.constantLong RX4 164 (31), Cond.fieldLink RX4 9 "GooseCodexModel" "rank" "[I", Cond.fieldLink RX4 13 "GooseCodexModel" "keeps" "[I", Cond.methodLink RX4 113 yX4_inside, Cond.instanceMethod yX4_inside, Cond.selects RX4 yX4_inside yX4_inside, Cond.initialized RX4, Cond.code yX4_inside cX4_inside 3 (some .int), Cond.methodLink RX4 67 yX4_isIn_, Cond.instanceMethod yX4_isIn_, Cond.selects RX4 yX4_isIn_ yX4_isIn_, Cond.code yX4_isIn_ cX4_isIn_ 2 (some .boolean), Cond.methodLink RX4 64 yX4_vi, Cond.instanceMethod yX4_vi, Cond.selects RX4 yX4_vi yX4_vi, Cond.code yX4_vi cX4_vi 3 (some .int), Cond.methodLink RX4 126 yX4_loudest]
def wsX4_digest_r2 : List Cond := [Cond.instanceMethod yX4_loudest, Cond.selects RX4 yX4_loudest yX4_loudest, Cond.code yX4_loudest cX4_loudest 3 (some .int), Cond.methodLink RX4 70 yX4_hiss, Cond.instanceMethod yX4_hiss, Cond.selects RX4 yX4_hiss yX4_hiss, Cond.code yX4_hiss cX4_hiss 5 (some .int), Cond.methodLink RX4 57 yX4_isAwake, Cond.instanceMethod yX4_isAwake, Cond.selects RX4 yX4_isAwake yX4_isAwake, Cond.code yX4_isAwake cX4_isAwake 3 (some .boolean), Cond.methodLink RX4 48 yX4_go, Cond.instanceMethod yX4_go, Cond.selects RX4 yX4_go yX4_go, Cond.code yX4_go cX4_go 3 (some .int), Cond.methodLink RX4 61 yX4_more, Cond.instanceMethod yX4_more, Cond.selects RX4 yX4_more yX4_more, Cond.code yX4_more cX4_more 3 (some .int), Cond.methodLink RX4 52 Lib.Math.max.name, Cond.static Lib.Math.max.name, Cond.initialized "java/lang/Math", Cond.code Lib.Math.max.name Lib.Math.max.code 2 (some .int), Cond.methodLink RX4 123 yX4_awake]
def wsX4_digest_r3 : List Cond := [Cond.instanceMethod yX4_awake, Cond.selects RX4 yX4_awake yX4_awake, Cond.code yX4_awake cX4_awake 4 (some .int), Cond.methodLink RX4 135 yX4_hissNow, Cond.instanceMethod yX4_hissNow, Cond.selects RX4 yX4_hissNow yX4_hissNow, Cond.code yX4_hissNow cX4_hissNow 2 (some .int), Cond.fieldLink RX4 16 "GooseCodexModel" "own" "[I", Cond.methodLink RX4 138 yX4_dare, Cond.instanceMethod yX4_dare, Cond.selects RX4 yX4_dare yX4_dare, Cond.code yX4_dare cX4_dare 2 (some .boolean), Cond.methodLink RX4 150 yX4_until, Cond.instanceMethod yX4_until, Cond.selects RX4 yX4_until yX4_until, Cond.code yX4_until cX4_until 3 (some .int), Cond.methodLink RX4 141 yX4_keep, Cond.instanceMethod yX4_keep, Cond.selects RX4 yX4_keep yX4_keep, Cond.code yX4_keep cX4_keep 1 none, Cond.fieldLink RX4 22 "GooseCodexModel" "kept" "[I", Cond.methodLink RX4 42 arraycopyName, Cond.native arraycopyName, Cond.static arraycopyName]
def wsX4_digest_r4 : List Cond := [Cond.initialized "java/lang/System", Cond.methodLink RX4 144 yX4_run, Cond.instanceMethod yX4_run, Cond.selects RX4 yX4_run yX4_run, Cond.code yX4_run cX4_run 4 (some .int), Cond.methodLink RX4 98 yX4_beatOn, Cond.instanceMethod yX4_beatOn, Cond.selects RX4 yX4_beatOn yX4_beatOn, Cond.code yX4_beatOn cX4_beatOn 2 none, Cond.methodLink RX4 77 yX4_put, Cond.instanceMethod yX4_put, Cond.selects RX4 yX4_put yX4_put, Cond.code yX4_put cX4_put 4 none, Cond.methodLink RX4 94 yX4_move, Cond.instanceMethod yX4_move, Cond.selects RX4 yX4_move yX4_move, Cond.code yX4_move cX4_move 5 none, Cond.methodLink RX4 80 Lib.Math.min.name, Cond.static Lib.Math.min.name, Cond.code Lib.Math.min.name Lib.Math.min.code 2 (some .int), Cond.methodLink RX4 73 yX4_let, Cond.instanceMethod yX4_let, Cond.selects RX4 yX4_let yX4_let, Cond.code yX4_let cX4_let 4 none]
def wsX4_digest_r5 : List Cond := [Cond.methodLink RX4 83 yX4_angriest, Cond.instanceMethod yX4_angriest, Cond.selects RX4 yX4_angriest yX4_angriest, Cond.code yX4_angriest cX4_angriest 4 (some .int), Cond.methodLink RX4 87 yX4_feed, Cond.instanceMethod yX4_feed, Cond.selects RX4 yX4_feed yX4_feed, Cond.code yX4_feed cX4_feed 3 none, Cond.methodLink RX4 91 yX4_grade, Cond.static yX4_grade, Cond.code yX4_grade cX4_grade 1 (some .int), Cond.methodLink RX4 147 yX4_bringBack, Cond.instanceMethod yX4_bringBack, Cond.selects RX4 yX4_bringBack yX4_bringBack, Cond.code yX4_bringBack cX4_bringBack 1 none, Cond.methodLink RX4 153 yX4_toBribe, Cond.instanceMethod yX4_toBribe, Cond.selects RX4 yX4_toBribe yX4_toBribe, Cond.code yX4_toBribe cX4_toBribe 2 (some .int), Cond.methodLink RX4 156 yX4_calmWanted, Cond.instanceMethod yX4_calmWanted, Cond.selects RX4 yX4_calmWanted yX4_calmWanted, Cond.code yX4_calmWanted cX4_calmWanted 8 (some .int), Cond.methodLink RX4 159 yX4_ranked]
def wsX4_digest_r6 : List Cond := [Cond.instanceMethod yX4_ranked, Cond.selects RX4 yX4_ranked yX4_ranked, Cond.code yX4_ranked cX4_ranked 3 (some .int)]
def wsX4_digest : List Cond := .code yX4_digest cX4_digest 10 (some .long) :: ((wsX4_digest_r1 ++ (wsX4_digest_r2 ++ (wsX4_digest_r3 ++ (wsX4_digest_r4 ++ (wsX4_digest_r5 ++ wsX4_digest_r6))))) ++ wsX40)
def wsJ9_max_7cf53 : List Cond := .code yJ9_max_7cf53 cJ9_max_7cf53 2 (some .int) :: ([])
def wsJ9_min_7cf53 : List Cond := .code yJ9_min_7cf53 cJ9_min_7cf53 2 (some .int) :: ([])
def wsL_addGate_r1 : List Cond := [Cond.classLink RL 13 "java/lang/IllegalArgumentException", Cond.classLink RL 15 "java/lang/IllegalStateException", Cond.methodLink RL 7 yX3_addGate, Cond.instanceMethod yX3_addGate, Cond.selects RX3 yX3_addGate yX3_addGate, Cond.initialized RX3, Cond.code yX3_addGate cX3_addGate 2 (some .int), Cond.fieldLink RX3 10 "GooseCodex" "now" "LGooseCodex$Farm;", Cond.fieldLink RX3 27 "GooseCodex$Farm" "gateCount" "I", Cond.fieldLink RX3 31 "GooseCodex$Farm" "guests" "LGooseCodex$Guests;", Cond.fieldLink RX3 35 "GooseCodex$Guests" "count" "I", Cond.methodLink RX3 19 yX3_isRank, Cond.static yX3_isRank, Cond.code yX3_isRank cX3_isRank 1 (some .boolean), Cond.methodLink RX3 53 yX3_isWithin, Cond.static yX3_isWithin, Cond.code yX3_isWithin cX3_isWithin 3 (some .boolean), Cond.methodLink RX3 23 yX3_demandArgument, Cond.static yX3_demandArgument, Cond.code yX3_demandArgument cX3_demandArgument 1 none, Cond.classLink RX3 269 "java/lang/IllegalArgumentException", Cond.initialized "java/lang/IllegalArgumentException", Cond.methodLink RX3 40 yX3_demandState, Cond.static yX3_demandState]
def wsL_addGate_r2 : List Cond := [Cond.code yX3_demandState cX3_demandState 1 none, Cond.classLink RX3 274 "java/lang/IllegalStateException", Cond.initialized "java/lang/IllegalStateException", Cond.methodLink RX3 43 yX0_putGate, Cond.instanceMethod yX0_putGate, Cond.selects RX0 yX0_putGate yX0_putGate, Cond.initialized RX0, Cond.code yX0_putGate cX0_putGate 3 (some .int), Cond.fieldLink RX0 29 "GooseCodex$Farm" "gateCount" "I", Cond.fieldLink RX0 9 "GooseCodex$Farm" "ranks" "[I"]
def wsL_addGate : List Cond := .codeWith yL_addGate cL_addGate 4 (some .int) [(0, 9, 12, 13), (0, 9, 15, 15)] :: ((wsL_addGate_r1 ++ wsL_addGate_r2) ++ wsX30 ++ wsX00 ++ wsX20 ++ (vx_atS RX3 273 "java/lang/IllegalArgumentException" ["java/lang/RuntimeException", "java/lang/Exception"]).filter goodWord ++ (vx_atS RX3 278 "java/lang/IllegalStateException" ["java/lang/RuntimeException", "java/lang/Exception"]).filter goodWord)
def wsL_addGoose_r1 : List Cond := [Cond.classLink RL 21 "java/lang/IndexOutOfBoundsException", Cond.classLink RL 13 "java/lang/IllegalArgumentException", Cond.classLink RL 15 "java/lang/IllegalStateException", Cond.methodLink RL 17 yX3_addGoose, Cond.instanceMethod yX3_addGoose, Cond.selects RX3 yX3_addGoose yX3_addGoose, Cond.initialized RX3, Cond.code yX3_addGoose cX3_addGoose 3 (some .int), Cond.fieldLink RX3 10 "GooseCodex" "now" "LGooseCodex$Farm;", Cond.fieldLink RX3 57 "GooseCodex$Farm" "flock" "LGooseCodex$Flock;", Cond.fieldLink RX3 61 "GooseCodex$Flock" "count" "I", Cond.methodLink RX3 47 yX0_hasGate, Cond.instanceMethod yX0_hasGate, Cond.selects RX0 yX0_hasGate yX0_hasGate, Cond.initialized RX0, Cond.code yX0_hasGate cX0_hasGate 2 (some .boolean), Cond.fieldLink RX0 29 "GooseCodex$Farm" "gateCount" "I", Cond.methodLink RX3 50 yX3_demandIndex, Cond.static yX3_demandIndex, Cond.code yX3_demandIndex cX3_demandIndex 1 none, Cond.classLink RX3 262 "java/lang/IndexOutOfBoundsException", Cond.initialized "java/lang/IndexOutOfBoundsException", Cond.methodLink RX3 53 yX3_isWithin, Cond.static yX3_isWithin]
def wsL_addGoose_r2 : List Cond := [Cond.code yX3_isWithin cX3_isWithin 3 (some .boolean), Cond.methodLink RX3 23 yX3_demandArgument, Cond.static yX3_demandArgument, Cond.code yX3_demandArgument cX3_demandArgument 1 none, Cond.classLink RX3 269 "java/lang/IllegalArgumentException", Cond.initialized "java/lang/IllegalArgumentException", Cond.methodLink RX3 40 yX3_demandState, Cond.static yX3_demandState, Cond.code yX3_demandState cX3_demandState 1 none, Cond.classLink RX3 274 "java/lang/IllegalStateException", Cond.initialized "java/lang/IllegalStateException", Cond.methodLink RX3 64 yX1_putGoose, Cond.instanceMethod yX1_putGoose, Cond.selects RX1 yX1_putGoose yX1_putGoose, Cond.initialized RX1, Cond.code yX1_putGoose cX1_putGoose 4 (some .int), Cond.fieldLink RX1 24 "GooseCodex$Flock" "count" "I", Cond.fieldLink RX1 9 "GooseCodex$Flock" "gate" "[I", Cond.fieldLink RX1 15 "GooseCodex$Flock" "temper" "[I"]
def wsL_addGoose : List Cond := .codeWith yL_addGoose cL_addGoose 5 (some .int) [(0, 10, 13, 21), (0, 10, 17, 13), (0, 10, 21, 15)] :: ((wsL_addGoose_r1 ++ wsL_addGoose_r2) ++ wsX30 ++ wsX00 ++ wsX10 ++ (vx_atS RX3 266 "java/lang/IndexOutOfBoundsException" ["java/lang/RuntimeException", "java/lang/Exception"]).filter goodWord ++ (vx_atS RX3 273 "java/lang/IllegalArgumentException" ["java/lang/RuntimeException", "java/lang/Exception"]).filter goodWord ++ (vx_atS RX3 278 "java/lang/IllegalStateException" ["java/lang/RuntimeException", "java/lang/Exception"]).filter goodWord)
def wsL_arrive_r1 : List Cond := [Cond.classLink RL 13 "java/lang/IllegalArgumentException", Cond.classLink RL 15 "java/lang/IllegalStateException", Cond.methodLink RL 23 yX3_arrive, Cond.instanceMethod yX3_arrive, Cond.selects RX3 yX3_arrive yX3_arrive, Cond.initialized RX3, Cond.code yX3_arrive cX3_arrive 4 (some .int), Cond.fieldLink RX3 10 "GooseCodex" "now" "LGooseCodex$Farm;", Cond.fieldLink RX3 27 "GooseCodex$Farm" "gateCount" "I", Cond.fieldLink RX3 31 "GooseCodex$Farm" "guests" "LGooseCodex$Guests;", Cond.fieldLink RX3 35 "GooseCodex$Guests" "count" "I", Cond.methodLink RX3 19 yX3_isRank, Cond.static yX3_isRank, Cond.code yX3_isRank cX3_isRank 1 (some .boolean), Cond.methodLink RX3 53 yX3_isWithin, Cond.static yX3_isWithin, Cond.code yX3_isWithin cX3_isWithin 3 (some .boolean), Cond.methodLink RX3 68 yX3_isNerve, Cond.static yX3_isNerve, Cond.code yX3_isNerve cX3_isNerve 1 (some .boolean), Cond.methodLink RX3 23 yX3_demandArgument, Cond.static yX3_demandArgument, Cond.code yX3_demandArgument cX3_demandArgument 1 none, Cond.classLink RX3 269 "java/lang/IllegalArgumentException"]
def wsL_arrive_r2 : List Cond := [Cond.initialized "java/lang/IllegalArgumentException", Cond.methodLink RX3 40 yX3_demandState, Cond.static yX3_demandState, Cond.code yX3_demandState cX3_demandState 1 none, Cond.classLink RX3 274 "java/lang/IllegalStateException", Cond.initialized "java/lang/IllegalStateException", Cond.methodLink RX3 71 yX2_putGuest, Cond.instanceMethod yX2_putGuest, Cond.selects RX2 yX2_putGuest yX2_putGuest, Cond.initialized RX2, Cond.code yX2_putGuest cX2_putGuest 5 (some .int), Cond.fieldLink RX2 27 "GooseCodex$Guests" "count" "I", Cond.fieldLink RX2 9 "GooseCodex$Guests" "rank" "[I", Cond.fieldLink RX2 15 "GooseCodex$Guests" "nerve" "[I", Cond.fieldLink RX2 18 "GooseCodex$Guests" "corns" "[I"]
def wsL_arrive : List Cond := .codeWith yL_arrive cL_arrive 6 (some .int) [(0, 12, 15, 13), (0, 12, 19, 15)] :: ((wsL_arrive_r1 ++ wsL_arrive_r2) ++ wsX30 ++ wsX00 ++ wsX20 ++ (vx_atS RX3 273 "java/lang/IllegalArgumentException" ["java/lang/RuntimeException", "java/lang/Exception"]).filter goodWord ++ (vx_atS RX3 278 "java/lang/IllegalStateException" ["java/lang/RuntimeException", "java/lang/Exception"]).filter goodWord)
def wsL_setRank_r1 : List Cond := [Cond.classLink RL 21 "java/lang/IndexOutOfBoundsException", Cond.classLink RL 13 "java/lang/IllegalArgumentException", Cond.methodLink RL 27 yX3_setRank, Cond.instanceMethod yX3_setRank, Cond.selects RX3 yX3_setRank yX3_setRank, Cond.initialized RX3, Cond.code yX3_setRank cX3_setRank 4 (some .int), Cond.fieldLink RX3 10 "GooseCodex" "now" "LGooseCodex$Farm;", Cond.fieldLink RX3 75 "GooseCodex$Farm" "ranks" "[I", Cond.methodLink RX3 47 yX0_hasGate, Cond.instanceMethod yX0_hasGate, Cond.selects RX0 yX0_hasGate yX0_hasGate, Cond.initialized RX0, Cond.code yX0_hasGate cX0_hasGate 2 (some .boolean), Cond.fieldLink RX0 29 "GooseCodex$Farm" "gateCount" "I", Cond.methodLink RX3 50 yX3_demandIndex, Cond.static yX3_demandIndex, Cond.code yX3_demandIndex cX3_demandIndex 1 none, Cond.classLink RX3 262 "java/lang/IndexOutOfBoundsException", Cond.initialized "java/lang/IndexOutOfBoundsException", Cond.methodLink RX3 19 yX3_isRank, Cond.static yX3_isRank, Cond.code yX3_isRank cX3_isRank 1 (some .boolean), Cond.methodLink RX3 53 yX3_isWithin]
def wsL_setRank_r2 : List Cond := [Cond.static yX3_isWithin, Cond.code yX3_isWithin cX3_isWithin 3 (some .boolean), Cond.methodLink RX3 23 yX3_demandArgument, Cond.static yX3_demandArgument, Cond.code yX3_demandArgument cX3_demandArgument 1 none, Cond.classLink RX3 269 "java/lang/IllegalArgumentException", Cond.initialized "java/lang/IllegalArgumentException"]
def wsL_setRank : List Cond := .codeWith yL_setRank cL_setRank 5 (some .int) [(0, 10, 13, 21), (0, 10, 17, 13)] :: ((wsL_setRank_r1 ++ wsL_setRank_r2) ++ wsX30 ++ wsX00 ++ (vx_atS RX3 266 "java/lang/IndexOutOfBoundsException" ["java/lang/RuntimeException", "java/lang/Exception"]).filter goodWord ++ (vx_atS RX3 273 "java/lang/IllegalArgumentException" ["java/lang/RuntimeException", "java/lang/Exception"]).filter goodWord)
def wsL_lead_r1 : List Cond := [Cond.classLink RL 21 "java/lang/IndexOutOfBoundsException", Cond.methodLink RL 30 yX3_lead, Cond.instanceMethod yX3_lead, Cond.selects RX3 yX3_lead yX3_lead, Cond.initialized RX3, Cond.code yX3_lead cX3_lead 4 (some .int), Cond.fieldLink RX3 10 "GooseCodex" "now" "LGooseCodex$Farm;", Cond.fieldLink RX3 57 "GooseCodex$Farm" "flock" "LGooseCodex$Flock;", Cond.fieldLink RX3 82 "GooseCodex$Flock" "gate" "[I", Cond.methodLink RX3 79 yX1_hasGoose, Cond.instanceMethod yX1_hasGoose, Cond.selects RX1 yX1_hasGoose yX1_hasGoose, Cond.initialized RX1, Cond.code yX1_hasGoose cX1_hasGoose 2 (some .boolean), Cond.fieldLink RX1 24 "GooseCodex$Flock" "count" "I", Cond.methodLink RX3 47 yX0_hasGate, Cond.instanceMethod yX0_hasGate, Cond.selects RX0 yX0_hasGate yX0_hasGate, Cond.initialized RX0, Cond.code yX0_hasGate cX0_hasGate 2 (some .boolean), Cond.fieldLink RX0 29 "GooseCodex$Farm" "gateCount" "I", Cond.methodLink RX3 50 yX3_demandIndex, Cond.static yX3_demandIndex, Cond.code yX3_demandIndex cX3_demandIndex 1 none]
def wsL_lead_r2 : List Cond := [Cond.classLink RX3 262 "java/lang/IndexOutOfBoundsException", Cond.initialized "java/lang/IndexOutOfBoundsException"]
def wsL_lead : List Cond := .codeWith yL_lead cL_lead 5 (some .int) [(0, 10, 13, 21)] :: ((wsL_lead_r1 ++ wsL_lead_r2) ++ wsX30 ++ wsX00 ++ wsX10 ++ (vx_atS RX3 266 "java/lang/IndexOutOfBoundsException" ["java/lang/RuntimeException", "java/lang/Exception"]).filter goodWord)
def wsL_giveCorns_r1 : List Cond := [Cond.classLink RL 21 "java/lang/IndexOutOfBoundsException", Cond.classLink RL 13 "java/lang/IllegalArgumentException", Cond.methodLink RL 33 yX3_giveCorns, Cond.instanceMethod yX3_giveCorns, Cond.selects RX3 yX3_giveCorns yX3_giveCorns, Cond.initialized RX3, Cond.code yX3_giveCorns cX3_giveCorns 4 (some .int), Cond.fieldLink RX3 10 "GooseCodex" "now" "LGooseCodex$Farm;", Cond.fieldLink RX3 31 "GooseCodex$Farm" "guests" "LGooseCodex$Guests;", Cond.fieldLink RX3 89 "GooseCodex$Guests" "corns" "[I", Cond.methodLink RX3 92 Lib.Math.min.name, Cond.static Lib.Math.min.name, Cond.initialized "java/lang/Math", Cond.code Lib.Math.min.name Lib.Math.min.code 2 (some .int), Cond.methodLink RX3 85 yX3_demandVisitor, Cond.instanceMethod yX3_demandVisitor, Cond.selects RX3 yX3_demandVisitor yX3_demandVisitor, Cond.code yX3_demandVisitor cX3_demandVisitor 2 none, Cond.methodLink RX3 259 yX2_hasGuest, Cond.instanceMethod yX2_hasGuest, Cond.selects RX2 yX2_hasGuest yX2_hasGuest, Cond.initialized RX2, Cond.code yX2_hasGuest cX2_hasGuest 2 (some .boolean), Cond.fieldLink RX2 27 "GooseCodex$Guests" "count" "I"]
def wsL_giveCorns_r2 : List Cond := [Cond.methodLink RX3 50 yX3_demandIndex, Cond.static yX3_demandIndex, Cond.code yX3_demandIndex cX3_demandIndex 1 none, Cond.classLink RX3 262 "java/lang/IndexOutOfBoundsException", Cond.initialized "java/lang/IndexOutOfBoundsException", Cond.methodLink RX3 53 yX3_isWithin, Cond.static yX3_isWithin, Cond.code yX3_isWithin cX3_isWithin 3 (some .boolean), Cond.methodLink RX3 23 yX3_demandArgument, Cond.static yX3_demandArgument, Cond.code yX3_demandArgument cX3_demandArgument 1 none, Cond.classLink RX3 269 "java/lang/IllegalArgumentException", Cond.initialized "java/lang/IllegalArgumentException"]
def wsL_giveCorns : List Cond := .codeWith yL_giveCorns cL_giveCorns 5 (some .int) [(0, 10, 13, 21), (0, 10, 17, 13)] :: ((wsL_giveCorns_r1 ++ wsL_giveCorns_r2) ++ wsX30 ++ wsX00 ++ wsX20 ++ (vx_atS RX3 266 "java/lang/IndexOutOfBoundsException" ["java/lang/RuntimeException", "java/lang/Exception"]).filter goodWord ++ (vx_atS RX3 273 "java/lang/IllegalArgumentException" ["java/lang/RuntimeException", "java/lang/Exception"]).filter goodWord)
def wsL_bribe_r1 : List Cond := [Cond.classLink RL 21 "java/lang/IndexOutOfBoundsException", Cond.classLink RL 15 "java/lang/IllegalStateException", Cond.methodLink RL 36 yX3_bribe, Cond.instanceMethod yX3_bribe, Cond.selects RX3 yX3_bribe yX3_bribe, Cond.initialized RX3, Cond.code yX3_bribe cX3_bribe 3 (some .int), Cond.fieldLink RX3 10 "GooseCodex" "now" "LGooseCodex$Farm;", Cond.fieldLink RX3 31 "GooseCodex$Farm" "guests" "LGooseCodex$Guests;", Cond.fieldLink RX3 89 "GooseCodex$Guests" "corns" "[I", Cond.fieldLink RX3 57 "GooseCodex$Farm" "flock" "LGooseCodex$Flock;", Cond.fieldLink RX3 82 "GooseCodex$Flock" "gate" "[I", Cond.fieldLink RX3 103 "GooseCodex$Guests" "passed" "[I", Cond.fieldLink RX3 110 "GooseCodex$Flock" "temper" "[I", Cond.methodLink RX3 85 yX3_demandVisitor, Cond.instanceMethod yX3_demandVisitor, Cond.selects RX3 yX3_demandVisitor yX3_demandVisitor, Cond.code yX3_demandVisitor cX3_demandVisitor 2 none, Cond.methodLink RX3 259 yX2_hasGuest, Cond.instanceMethod yX2_hasGuest, Cond.selects RX2 yX2_hasGuest yX2_hasGuest, Cond.initialized RX2, Cond.code yX2_hasGuest cX2_hasGuest 2 (some .boolean), Cond.fieldLink RX2 27 "GooseCodex$Guests" "count" "I"]
def wsL_bribe_r2 : List Cond := [Cond.methodLink RX3 50 yX3_demandIndex, Cond.static yX3_demandIndex, Cond.code yX3_demandIndex cX3_demandIndex 1 none, Cond.classLink RX3 262 "java/lang/IndexOutOfBoundsException", Cond.initialized "java/lang/IndexOutOfBoundsException", Cond.methodLink RX3 97 yX3_demandGoose, Cond.instanceMethod yX3_demandGoose, Cond.selects RX3 yX3_demandGoose yX3_demandGoose, Cond.code yX3_demandGoose cX3_demandGoose 2 none, Cond.methodLink RX3 79 yX1_hasGoose, Cond.instanceMethod yX1_hasGoose, Cond.selects RX1 yX1_hasGoose yX1_hasGoose, Cond.initialized RX1, Cond.code yX1_hasGoose cX1_hasGoose 2 (some .boolean), Cond.fieldLink RX1 24 "GooseCodex$Flock" "count" "I", Cond.methodLink RX3 100 yX0_isBehindAll, Cond.instanceMethod yX0_isBehindAll, Cond.selects RX0 yX0_isBehindAll yX0_isBehindAll, Cond.initialized RX0, Cond.code yX0_isBehindAll cX0_isBehindAll 2 (some .boolean), Cond.fieldLink RX0 25 "GooseCodex$Farm" "guests" "LGooseCodex$Guests;", Cond.fieldLink RX0 49 "GooseCodex$Guests" "passed" "[I", Cond.fieldLink RX0 29 "GooseCodex$Farm" "gateCount" "I", Cond.methodLink RX3 40 yX3_demandState]
def wsL_bribe_r3 : List Cond := [Cond.static yX3_demandState, Cond.code yX3_demandState cX3_demandState 1 none, Cond.classLink RX3 274 "java/lang/IllegalStateException", Cond.initialized "java/lang/IllegalStateException", Cond.methodLink RX3 106 yX0_payGoose, Cond.instanceMethod yX0_payGoose, Cond.selects RX0 yX0_payGoose yX0_payGoose, Cond.code yX0_payGoose cX0_payGoose 3 none, Cond.fieldLink RX0 64 "GooseCodex$Guests" "corns" "[I", Cond.fieldLink RX0 18 "GooseCodex$Farm" "flock" "LGooseCodex$Flock;", Cond.fieldLink RX0 71 "GooseCodex$Farm" "bribeCount" "I", Cond.methodLink RX0 67 yX1_feed, Cond.instanceMethod yX1_feed, Cond.selects RX1 yX1_feed yX1_feed, Cond.code yX1_feed cX1_feed 2 none, Cond.fieldLink RX1 21 "GooseCodex$Flock" "eaten" "[I", Cond.fieldLink RX1 18 "GooseCodex$Flock" "calm" "[I", Cond.fieldLink RX1 15 "GooseCodex$Flock" "temper" "[I", Cond.methodLink RX1 32 Lib.Math.max.name, Cond.static Lib.Math.max.name, Cond.initialized "java/lang/Math", Cond.code Lib.Math.max.name Lib.Math.max.code 2 (some .int)]
def wsL_bribe : List Cond := .codeWith yL_bribe cL_bribe 5 (some .int) [(0, 10, 13, 21), (0, 10, 17, 15)] :: ((wsL_bribe_r1 ++ (wsL_bribe_r2 ++ wsL_bribe_r3)) ++ wsX30 ++ wsX00 ++ wsX20 ++ wsX10 ++ (vx_atS RX3 266 "java/lang/IndexOutOfBoundsException" ["java/lang/RuntimeException", "java/lang/Exception"]).filter goodWord ++ (vx_atS RX3 278 "java/lang/IllegalStateException" ["java/lang/RuntimeException", "java/lang/Exception"]).filter goodWord)
def wsL_passBeats_r1 : List Cond := [Cond.classLink RL 13 "java/lang/IllegalArgumentException", Cond.methodLink RL 39 yX3_passBeats, Cond.instanceMethod yX3_passBeats, Cond.selects RX3 yX3_passBeats yX3_passBeats, Cond.initialized RX3, Cond.code yX3_passBeats cX3_passBeats 3 (some .int), Cond.fieldLink RX3 10 "GooseCodex" "now" "LGooseCodex$Farm;", Cond.methodLink RX3 113 yX3_isBeats, Cond.static yX3_isBeats, Cond.code yX3_isBeats cX3_isBeats 1 (some .boolean), Cond.methodLink RX3 53 yX3_isWithin, Cond.static yX3_isWithin, Cond.code yX3_isWithin cX3_isWithin 3 (some .boolean), Cond.methodLink RX3 23 yX3_demandArgument, Cond.static yX3_demandArgument, Cond.code yX3_demandArgument cX3_demandArgument 1 none, Cond.classLink RX3 269 "java/lang/IllegalArgumentException", Cond.initialized "java/lang/IllegalArgumentException", Cond.methodLink RX3 116 yX0_countInside, Cond.instanceMethod yX0_countInside, Cond.selects RX0 yX0_countInside yX0_countInside, Cond.initialized RX0, Cond.code yX0_countInside cX0_countInside 3 (some .int), Cond.fieldLink RX0 25 "GooseCodex$Farm" "guests" "LGooseCodex$Guests;"]
def wsL_passBeats_r2 : List Cond := [Cond.fieldLink RX0 58 "GooseCodex$Guests" "count" "I", Cond.methodLink RX0 61 yX0_isBehindAll, Cond.instanceMethod yX0_isBehindAll, Cond.selects RX0 yX0_isBehindAll yX0_isBehindAll, Cond.code yX0_isBehindAll cX0_isBehindAll 2 (some .boolean), Cond.fieldLink RX0 49 "GooseCodex$Guests" "passed" "[I", Cond.fieldLink RX0 29 "GooseCodex$Farm" "gateCount" "I", Cond.methodLink RX3 120 yX0_runBeats, Cond.instanceMethod yX0_runBeats, Cond.selects RX0 yX0_runBeats yX0_runBeats, Cond.code yX0_runBeats cX0_runBeats 3 none, Cond.methodLink RX0 89 yX0_runBeat, Cond.instanceMethod yX0_runBeat, Cond.selects RX0 yX0_runBeat yX0_runBeat, Cond.code yX0_runBeat cX0_runBeat 2 none, Cond.fieldLink RX0 18 "GooseCodex$Farm" "flock" "LGooseCodex$Flock;", Cond.fieldLink RX0 98 "GooseCodex$Farm" "beat" "I", Cond.methodLink RX0 92 yX1_wakeByABeat, Cond.instanceMethod yX1_wakeByABeat, Cond.selects RX1 yX1_wakeByABeat yX1_wakeByABeat, Cond.initialized RX1, Cond.code yX1_wakeByABeat cX1_wakeByABeat 2 none, Cond.fieldLink RX1 24 "GooseCodex$Flock" "count" "I", Cond.fieldLink RX1 18 "GooseCodex$Flock" "calm" "[I"]
def wsL_passBeats_r3 : List Cond := [Cond.methodLink RX0 95 yX0_moveGuest, Cond.instanceMethod yX0_moveGuest, Cond.selects RX0 yX0_moveGuest yX0_moveGuest, Cond.code yX0_moveGuest cX0_moveGuest 5 none, Cond.fieldLink RX0 101 "GooseCodex$Guests" "retreat" "[I", Cond.fieldLink RX0 52 "GooseCodex$Guests" "rank" "[I", Cond.fieldLink RX0 79 "GooseCodex$Guests" "nerve" "[I", Cond.fieldLink RX0 64 "GooseCodex$Guests" "corns" "[I", Cond.fieldLink RX0 123 "GooseCodex$Farm" "retreatCount" "I", Cond.methodLink RX0 55 yX0_gateHiss, Cond.instanceMethod yX0_gateHiss, Cond.selects RX0 yX0_gateHiss yX0_gateHiss, Cond.code yX0_gateHiss cX0_gateHiss 3 (some .int), Cond.methodLink RX0 43 yX0_rankLack, Cond.instanceMethod yX0_rankLack, Cond.selects RX0 yX0_rankLack yX0_rankLack, Cond.code yX0_rankLack cX0_rankLack 3 (some .int), Cond.fieldLink RX0 9 "GooseCodex$Farm" "ranks" "[I", Cond.methodLink RX0 37 Lib.Math.max.name, Cond.static Lib.Math.max.name, Cond.initialized "java/lang/Math", Cond.code Lib.Math.max.name Lib.Math.max.code 2 (some .int), Cond.methodLink RX0 33 yX0_hasGate, Cond.instanceMethod yX0_hasGate]
def wsL_passBeats_r4 : List Cond := [Cond.selects RX0 yX0_hasGate yX0_hasGate, Cond.code yX0_hasGate cX0_hasGate 2 (some .boolean), Cond.methodLink RX0 46 yX1_hissThere, Cond.instanceMethod yX1_hissThere, Cond.selects RX1 yX1_hissThere yX1_hissThere, Cond.code yX1_hissThere cX1_hissThere 5 (some .int), Cond.fieldLink RX1 15 "GooseCodex$Flock" "temper" "[I", Cond.methodLink RX1 28 yX1_isAwakeThere, Cond.instanceMethod yX1_isAwakeThere, Cond.selects RX1 yX1_isAwakeThere yX1_isAwakeThere, Cond.code yX1_isAwakeThere cX1_isAwakeThere 3 (some .boolean), Cond.fieldLink RX1 9 "GooseCodex$Flock" "gate" "[I", Cond.methodLink RX0 104 yX1_enrage, Cond.instanceMethod yX1_enrage, Cond.selects RX1 yX1_enrage yX1_enrage, Cond.code yX1_enrage cX1_enrage 3 none, Cond.methodLink RX1 38 Lib.Math.min.name, Cond.static Lib.Math.min.name, Cond.code Lib.Math.min.name Lib.Math.min.code 2 (some .int), Cond.methodLink RX0 107 yX1_fiercestAwake, Cond.instanceMethod yX1_fiercestAwake, Cond.selects RX1 yX1_fiercestAwake yX1_fiercestAwake, Cond.code yX1_fiercestAwake cX1_fiercestAwake 5 (some .int), Cond.methodLink RX0 110 yX1_hasGoose]
def wsL_passBeats_r5 : List Cond := [Cond.instanceMethod yX1_hasGoose, Cond.selects RX1 yX1_hasGoose yX1_hasGoose, Cond.code yX1_hasGoose cX1_hasGoose 2 (some .boolean), Cond.methodLink RX0 113 yX0_payGoose, Cond.instanceMethod yX0_payGoose, Cond.selects RX0 yX0_payGoose yX0_payGoose, Cond.code yX0_payGoose cX0_payGoose 3 none, Cond.fieldLink RX0 71 "GooseCodex$Farm" "bribeCount" "I", Cond.methodLink RX0 67 yX1_feed, Cond.instanceMethod yX1_feed, Cond.selects RX1 yX1_feed yX1_feed, Cond.code yX1_feed cX1_feed 2 none, Cond.fieldLink RX1 21 "GooseCodex$Flock" "eaten" "[I", Cond.methodLink RX1 32 Lib.Math.max.name, Cond.static yX3_gradeOfHiss, Cond.code yX3_gradeOfHiss cX3_gradeOfHiss 1 (some .int), Cond.methodLink RX0 120 yX2_fallBack, Cond.instanceMethod yX2_fallBack, Cond.selects RX2 yX2_fallBack yX2_fallBack, Cond.initialized RX2, Cond.code yX2_fallBack cX2_fallBack 3 none, Cond.fieldLink RX2 24 "GooseCodex$Guests" "retreat" "[I", Cond.fieldLink RX2 15 "GooseCodex$Guests" "nerve" "[I", Cond.methodLink RX2 31 Lib.Math.min.name]
def wsL_passBeats_r6 : List Cond := [Cond.fieldLink RX2 21 "GooseCodex$Guests" "passed" "[I"]
def wsL_passBeats : List Cond := .codeWith yL_passBeats cL_passBeats 4 (some .int) [(0, 9, 12, 13)] :: ((wsL_passBeats_r1 ++ (wsL_passBeats_r2 ++ (wsL_passBeats_r3 ++ (wsL_passBeats_r4 ++ (wsL_passBeats_r5 ++ wsL_passBeats_r6))))) ++ wsX30 ++ wsX00 ++ wsX20 ++ wsX10 ++ (vx_atS RX3 273 "java/lang/IllegalArgumentException" ["java/lang/RuntimeException", "java/lang/Exception"]).filter goodWord)
def wsL_rankOf : List Cond := .codeWith yL_rankOf cL_rankOf 4 (some .int) [(0, 9, 12, 21)] :: ([.classLink RL 21 "java/lang/IndexOutOfBoundsException", .methodLink RL 42 yX3_rankOf, .instanceMethod yX3_rankOf, .selects RX3 yX3_rankOf yX3_rankOf, .initialized RX3, .code yX3_rankOf cX3_rankOf 2 (some .int), .fieldLink RX3 10 "GooseCodex" "now" "LGooseCodex$Farm;", .fieldLink RX3 75 "GooseCodex$Farm" "ranks" "[I", .methodLink RX3 47 yX0_hasGate, .instanceMethod yX0_hasGate, .selects RX0 yX0_hasGate yX0_hasGate, .initialized RX0, .code yX0_hasGate cX0_hasGate 2 (some .boolean), .fieldLink RX0 29 "GooseCodex$Farm" "gateCount" "I", .methodLink RX3 50 yX3_demandIndex, .static yX3_demandIndex, .code yX3_demandIndex cX3_demandIndex 1 none, .classLink RX3 262 "java/lang/IndexOutOfBoundsException", .initialized "java/lang/IndexOutOfBoundsException"] ++ wsX30 ++ wsX00 ++ (vx_atS RX3 266 "java/lang/IndexOutOfBoundsException" ["java/lang/RuntimeException", "java/lang/Exception"]).filter goodWord)
def wsL_awakeAt_r1 : List Cond := [Cond.classLink RL 21 "java/lang/IndexOutOfBoundsException", Cond.methodLink RL 45 yX3_awakeAt, Cond.instanceMethod yX3_awakeAt, Cond.selects RX3 yX3_awakeAt yX3_awakeAt, Cond.initialized RX3, Cond.code yX3_awakeAt cX3_awakeAt 2 (some .int), Cond.fieldLink RX3 10 "GooseCodex" "now" "LGooseCodex$Farm;", Cond.fieldLink RX3 57 "GooseCodex$Farm" "flock" "LGooseCodex$Flock;", Cond.methodLink RX3 47 yX0_hasGate, Cond.instanceMethod yX0_hasGate, Cond.selects RX0 yX0_hasGate yX0_hasGate, Cond.initialized RX0, Cond.code yX0_hasGate cX0_hasGate 2 (some .boolean), Cond.fieldLink RX0 29 "GooseCodex$Farm" "gateCount" "I", Cond.methodLink RX3 50 yX3_demandIndex, Cond.static yX3_demandIndex, Cond.code yX3_demandIndex cX3_demandIndex 1 none, Cond.classLink RX3 262 "java/lang/IndexOutOfBoundsException", Cond.initialized "java/lang/IndexOutOfBoundsException", Cond.methodLink RX3 132 yX1_countAwake, Cond.instanceMethod yX1_countAwake, Cond.selects RX1 yX1_countAwake yX1_countAwake, Cond.initialized RX1, Cond.code yX1_countAwake cX1_countAwake 4 (some .int)]
def wsL_awakeAt_r2 : List Cond := [Cond.fieldLink RX1 24 "GooseCodex$Flock" "count" "I", Cond.methodLink RX1 28 yX1_isAwakeThere, Cond.instanceMethod yX1_isAwakeThere, Cond.selects RX1 yX1_isAwakeThere yX1_isAwakeThere, Cond.code yX1_isAwakeThere cX1_isAwakeThere 3 (some .boolean), Cond.fieldLink RX1 9 "GooseCodex$Flock" "gate" "[I", Cond.fieldLink RX1 18 "GooseCodex$Flock" "calm" "[I"]
def wsL_awakeAt : List Cond := .codeWith yL_awakeAt cL_awakeAt 4 (some .int) [(0, 9, 12, 21)] :: ((wsL_awakeAt_r1 ++ wsL_awakeAt_r2) ++ wsX30 ++ wsX00 ++ wsX10 ++ (vx_atS RX3 266 "java/lang/IndexOutOfBoundsException" ["java/lang/RuntimeException", "java/lang/Exception"]).filter goodWord)
def wsL_hissOf_r1 : List Cond := [Cond.classLink RL 21 "java/lang/IndexOutOfBoundsException", Cond.classLink RL 13 "java/lang/IllegalArgumentException", Cond.methodLink RL 48 yX3_hissOf, Cond.instanceMethod yX3_hissOf, Cond.selects RX3 yX3_hissOf yX3_hissOf, Cond.initialized RX3, Cond.code yX3_hissOf cX3_hissOf 3 (some .int), Cond.fieldLink RX3 10 "GooseCodex" "now" "LGooseCodex$Farm;", Cond.methodLink RX3 47 yX0_hasGate, Cond.instanceMethod yX0_hasGate, Cond.selects RX0 yX0_hasGate yX0_hasGate, Cond.initialized RX0, Cond.code yX0_hasGate cX0_hasGate 2 (some .boolean), Cond.fieldLink RX0 29 "GooseCodex$Farm" "gateCount" "I", Cond.methodLink RX3 50 yX3_demandIndex, Cond.static yX3_demandIndex, Cond.code yX3_demandIndex cX3_demandIndex 1 none, Cond.classLink RX3 262 "java/lang/IndexOutOfBoundsException", Cond.initialized "java/lang/IndexOutOfBoundsException", Cond.methodLink RX3 19 yX3_isRank, Cond.static yX3_isRank, Cond.code yX3_isRank cX3_isRank 1 (some .boolean), Cond.methodLink RX3 53 yX3_isWithin, Cond.static yX3_isWithin]
def wsL_hissOf_r2 : List Cond := [Cond.code yX3_isWithin cX3_isWithin 3 (some .boolean), Cond.methodLink RX3 23 yX3_demandArgument, Cond.static yX3_demandArgument, Cond.code yX3_demandArgument cX3_demandArgument 1 none, Cond.classLink RX3 269 "java/lang/IllegalArgumentException", Cond.initialized "java/lang/IllegalArgumentException", Cond.methodLink RX3 135 yX0_gateHiss, Cond.instanceMethod yX0_gateHiss, Cond.selects RX0 yX0_gateHiss yX0_gateHiss, Cond.code yX0_gateHiss cX0_gateHiss 3 (some .int), Cond.fieldLink RX0 18 "GooseCodex$Farm" "flock" "LGooseCodex$Flock;", Cond.methodLink RX0 43 yX0_rankLack, Cond.instanceMethod yX0_rankLack, Cond.selects RX0 yX0_rankLack yX0_rankLack, Cond.code yX0_rankLack cX0_rankLack 3 (some .int), Cond.fieldLink RX0 9 "GooseCodex$Farm" "ranks" "[I", Cond.methodLink RX0 37 Lib.Math.max.name, Cond.static Lib.Math.max.name, Cond.initialized "java/lang/Math", Cond.code Lib.Math.max.name Lib.Math.max.code 2 (some .int), Cond.methodLink RX0 33 yX0_hasGate, Cond.methodLink RX0 46 yX1_hissThere, Cond.instanceMethod yX1_hissThere, Cond.selects RX1 yX1_hissThere yX1_hissThere]
def wsL_hissOf_r3 : List Cond := [Cond.initialized RX1, Cond.code yX1_hissThere cX1_hissThere 5 (some .int), Cond.fieldLink RX1 24 "GooseCodex$Flock" "count" "I", Cond.fieldLink RX1 15 "GooseCodex$Flock" "temper" "[I", Cond.methodLink RX1 28 yX1_isAwakeThere, Cond.instanceMethod yX1_isAwakeThere, Cond.selects RX1 yX1_isAwakeThere yX1_isAwakeThere, Cond.code yX1_isAwakeThere cX1_isAwakeThere 3 (some .boolean), Cond.fieldLink RX1 9 "GooseCodex$Flock" "gate" "[I", Cond.fieldLink RX1 18 "GooseCodex$Flock" "calm" "[I"]
def wsL_hissOf : List Cond := .codeWith yL_hissOf cL_hissOf 5 (some .int) [(0, 10, 13, 21), (0, 10, 17, 13)] :: ((wsL_hissOf_r1 ++ (wsL_hissOf_r2 ++ wsL_hissOf_r3)) ++ wsX30 ++ wsX00 ++ wsX10 ++ (vx_atS RX3 266 "java/lang/IndexOutOfBoundsException" ["java/lang/RuntimeException", "java/lang/Exception"]).filter goodWord ++ (vx_atS RX3 273 "java/lang/IllegalArgumentException" ["java/lang/RuntimeException", "java/lang/Exception"]).filter goodWord)
def wsL_gateOf : List Cond := .codeWith yL_gateOf cL_gateOf 4 (some .int) [(0, 9, 12, 21)] :: ([.classLink RL 21 "java/lang/IndexOutOfBoundsException", .methodLink RL 51 yX3_gateOf, .instanceMethod yX3_gateOf, .selects RX3 yX3_gateOf yX3_gateOf, .initialized RX3, .code yX3_gateOf cX3_gateOf 2 (some .int), .fieldLink RX3 10 "GooseCodex" "now" "LGooseCodex$Farm;", .fieldLink RX3 57 "GooseCodex$Farm" "flock" "LGooseCodex$Flock;", .fieldLink RX3 82 "GooseCodex$Flock" "gate" "[I", .methodLink RX3 97 yX3_demandGoose, .instanceMethod yX3_demandGoose, .selects RX3 yX3_demandGoose yX3_demandGoose, .code yX3_demandGoose cX3_demandGoose 2 none, .methodLink RX3 79 yX1_hasGoose, .instanceMethod yX1_hasGoose, .selects RX1 yX1_hasGoose yX1_hasGoose, .initialized RX1, .code yX1_hasGoose cX1_hasGoose 2 (some .boolean), .fieldLink RX1 24 "GooseCodex$Flock" "count" "I", .methodLink RX3 50 yX3_demandIndex, .static yX3_demandIndex, .code yX3_demandIndex cX3_demandIndex 1 none, .classLink RX3 262 "java/lang/IndexOutOfBoundsException", .initialized "java/lang/IndexOutOfBoundsException"] ++ wsX30 ++ wsX00 ++ wsX10 ++ (vx_atS RX3 266 "java/lang/IndexOutOfBoundsException" ["java/lang/RuntimeException", "java/lang/Exception"]).filter goodWord)
def wsL_temperOf : List Cond := .codeWith yL_temperOf cL_temperOf 4 (some .int) [(0, 9, 12, 21)] :: ([.classLink RL 21 "java/lang/IndexOutOfBoundsException", .methodLink RL 54 yX3_temperOf, .instanceMethod yX3_temperOf, .selects RX3 yX3_temperOf yX3_temperOf, .initialized RX3, .code yX3_temperOf cX3_temperOf 2 (some .int), .fieldLink RX3 10 "GooseCodex" "now" "LGooseCodex$Farm;", .fieldLink RX3 57 "GooseCodex$Farm" "flock" "LGooseCodex$Flock;", .fieldLink RX3 110 "GooseCodex$Flock" "temper" "[I", .methodLink RX3 97 yX3_demandGoose, .instanceMethod yX3_demandGoose, .selects RX3 yX3_demandGoose yX3_demandGoose, .code yX3_demandGoose cX3_demandGoose 2 none, .methodLink RX3 79 yX1_hasGoose, .instanceMethod yX1_hasGoose, .selects RX1 yX1_hasGoose yX1_hasGoose, .initialized RX1, .code yX1_hasGoose cX1_hasGoose 2 (some .boolean), .fieldLink RX1 24 "GooseCodex$Flock" "count" "I", .methodLink RX3 50 yX3_demandIndex, .static yX3_demandIndex, .code yX3_demandIndex cX3_demandIndex 1 none, .classLink RX3 262 "java/lang/IndexOutOfBoundsException", .initialized "java/lang/IndexOutOfBoundsException"] ++ wsX30 ++ wsX00 ++ wsX10 ++ (vx_atS RX3 266 "java/lang/IndexOutOfBoundsException" ["java/lang/RuntimeException", "java/lang/Exception"]).filter goodWord)
def wsL_calmFor : List Cond := .codeWith yL_calmFor cL_calmFor 4 (some .int) [(0, 9, 12, 21)] :: ([.classLink RL 21 "java/lang/IndexOutOfBoundsException", .methodLink RL 57 yX3_calmFor, .instanceMethod yX3_calmFor, .selects RX3 yX3_calmFor yX3_calmFor, .initialized RX3, .code yX3_calmFor cX3_calmFor 2 (some .int), .fieldLink RX3 10 "GooseCodex" "now" "LGooseCodex$Farm;", .fieldLink RX3 57 "GooseCodex$Farm" "flock" "LGooseCodex$Flock;", .fieldLink RX3 138 "GooseCodex$Flock" "calm" "[I", .methodLink RX3 97 yX3_demandGoose, .instanceMethod yX3_demandGoose, .selects RX3 yX3_demandGoose yX3_demandGoose, .code yX3_demandGoose cX3_demandGoose 2 none, .methodLink RX3 79 yX1_hasGoose, .instanceMethod yX1_hasGoose, .selects RX1 yX1_hasGoose yX1_hasGoose, .initialized RX1, .code yX1_hasGoose cX1_hasGoose 2 (some .boolean), .fieldLink RX1 24 "GooseCodex$Flock" "count" "I", .methodLink RX3 50 yX3_demandIndex, .static yX3_demandIndex, .code yX3_demandIndex cX3_demandIndex 1 none, .classLink RX3 262 "java/lang/IndexOutOfBoundsException", .initialized "java/lang/IndexOutOfBoundsException"] ++ wsX30 ++ wsX00 ++ wsX10 ++ (vx_atS RX3 266 "java/lang/IndexOutOfBoundsException" ["java/lang/RuntimeException", "java/lang/Exception"]).filter goodWord)
def wsL_eatenBy : List Cond := .codeWith yL_eatenBy cL_eatenBy 4 (some .int) [(0, 9, 12, 21)] :: ([.classLink RL 21 "java/lang/IndexOutOfBoundsException", .methodLink RL 60 yX3_eatenBy, .instanceMethod yX3_eatenBy, .selects RX3 yX3_eatenBy yX3_eatenBy, .initialized RX3, .code yX3_eatenBy cX3_eatenBy 2 (some .int), .fieldLink RX3 10 "GooseCodex" "now" "LGooseCodex$Farm;", .fieldLink RX3 57 "GooseCodex$Farm" "flock" "LGooseCodex$Flock;", .fieldLink RX3 141 "GooseCodex$Flock" "eaten" "[I", .methodLink RX3 97 yX3_demandGoose, .instanceMethod yX3_demandGoose, .selects RX3 yX3_demandGoose yX3_demandGoose, .code yX3_demandGoose cX3_demandGoose 2 none, .methodLink RX3 79 yX1_hasGoose, .instanceMethod yX1_hasGoose, .selects RX1 yX1_hasGoose yX1_hasGoose, .initialized RX1, .code yX1_hasGoose cX1_hasGoose 2 (some .boolean), .fieldLink RX1 24 "GooseCodex$Flock" "count" "I", .methodLink RX3 50 yX3_demandIndex, .static yX3_demandIndex, .code yX3_demandIndex cX3_demandIndex 1 none, .classLink RX3 262 "java/lang/IndexOutOfBoundsException", .initialized "java/lang/IndexOutOfBoundsException"] ++ wsX30 ++ wsX00 ++ wsX10 ++ (vx_atS RX3 266 "java/lang/IndexOutOfBoundsException" ["java/lang/RuntimeException", "java/lang/Exception"]).filter goodWord)
def wsL_passedBy : List Cond := .codeWith yL_passedBy cL_passedBy 4 (some .int) [(0, 9, 12, 21)] :: ([.classLink RL 21 "java/lang/IndexOutOfBoundsException", .methodLink RL 63 yX3_passedBy, .instanceMethod yX3_passedBy, .selects RX3 yX3_passedBy yX3_passedBy, .initialized RX3, .code yX3_passedBy cX3_passedBy 2 (some .int), .fieldLink RX3 10 "GooseCodex" "now" "LGooseCodex$Farm;", .fieldLink RX3 31 "GooseCodex$Farm" "guests" "LGooseCodex$Guests;", .fieldLink RX3 103 "GooseCodex$Guests" "passed" "[I", .methodLink RX3 85 yX3_demandVisitor, .instanceMethod yX3_demandVisitor, .selects RX3 yX3_demandVisitor yX3_demandVisitor, .code yX3_demandVisitor cX3_demandVisitor 2 none, .methodLink RX3 259 yX2_hasGuest, .instanceMethod yX2_hasGuest, .selects RX2 yX2_hasGuest yX2_hasGuest, .initialized RX2, .code yX2_hasGuest cX2_hasGuest 2 (some .boolean), .fieldLink RX2 27 "GooseCodex$Guests" "count" "I", .methodLink RX3 50 yX3_demandIndex, .static yX3_demandIndex, .code yX3_demandIndex cX3_demandIndex 1 none, .classLink RX3 262 "java/lang/IndexOutOfBoundsException", .initialized "java/lang/IndexOutOfBoundsException"] ++ wsX30 ++ wsX00 ++ wsX20 ++ (vx_atS RX3 266 "java/lang/IndexOutOfBoundsException" ["java/lang/RuntimeException", "java/lang/Exception"]).filter goodWord)
def wsL_isInFarm_r1 : List Cond := [Cond.classLink RL 21 "java/lang/IndexOutOfBoundsException", Cond.methodLink RL 66 yX3_isInFarm, Cond.instanceMethod yX3_isInFarm, Cond.selects RX3 yX3_isInFarm yX3_isInFarm, Cond.initialized RX3, Cond.code yX3_isInFarm cX3_isInFarm 2 (some .boolean), Cond.fieldLink RX3 10 "GooseCodex" "now" "LGooseCodex$Farm;", Cond.methodLink RX3 85 yX3_demandVisitor, Cond.instanceMethod yX3_demandVisitor, Cond.selects RX3 yX3_demandVisitor yX3_demandVisitor, Cond.code yX3_demandVisitor cX3_demandVisitor 2 none, Cond.fieldLink RX3 31 "GooseCodex$Farm" "guests" "LGooseCodex$Guests;", Cond.methodLink RX3 259 yX2_hasGuest, Cond.instanceMethod yX2_hasGuest, Cond.selects RX2 yX2_hasGuest yX2_hasGuest, Cond.initialized RX2, Cond.code yX2_hasGuest cX2_hasGuest 2 (some .boolean), Cond.fieldLink RX2 27 "GooseCodex$Guests" "count" "I", Cond.methodLink RX3 50 yX3_demandIndex, Cond.static yX3_demandIndex, Cond.code yX3_demandIndex cX3_demandIndex 1 none, Cond.classLink RX3 262 "java/lang/IndexOutOfBoundsException", Cond.initialized "java/lang/IndexOutOfBoundsException", Cond.methodLink RX3 100 yX0_isBehindAll]
def wsL_isInFarm_r2 : List Cond := [Cond.instanceMethod yX0_isBehindAll, Cond.selects RX0 yX0_isBehindAll yX0_isBehindAll, Cond.initialized RX0, Cond.code yX0_isBehindAll cX0_isBehindAll 2 (some .boolean), Cond.fieldLink RX0 25 "GooseCodex$Farm" "guests" "LGooseCodex$Guests;", Cond.fieldLink RX0 49 "GooseCodex$Guests" "passed" "[I", Cond.fieldLink RX0 29 "GooseCodex$Farm" "gateCount" "I"]
def wsL_isInFarm : List Cond := .codeWith yL_isInFarm cL_isInFarm 4 (some .int) [(0, 16, 19, 21)] :: ((wsL_isInFarm_r1 ++ wsL_isInFarm_r2) ++ wsX30 ++ wsX00 ++ wsX20 ++ (vx_atS RX3 266 "java/lang/IndexOutOfBoundsException" ["java/lang/RuntimeException", "java/lang/Exception"]).filter goodWord)
def wsL_cornsOf : List Cond := .codeWith yL_cornsOf cL_cornsOf 4 (some .int) [(0, 9, 12, 21)] :: ([.classLink RL 21 "java/lang/IndexOutOfBoundsException", .methodLink RL 70 yX3_cornsOf, .instanceMethod yX3_cornsOf, .selects RX3 yX3_cornsOf yX3_cornsOf, .initialized RX3, .code yX3_cornsOf cX3_cornsOf 2 (some .int), .fieldLink RX3 10 "GooseCodex" "now" "LGooseCodex$Farm;", .fieldLink RX3 31 "GooseCodex$Farm" "guests" "LGooseCodex$Guests;", .fieldLink RX3 89 "GooseCodex$Guests" "corns" "[I", .methodLink RX3 85 yX3_demandVisitor, .instanceMethod yX3_demandVisitor, .selects RX3 yX3_demandVisitor yX3_demandVisitor, .code yX3_demandVisitor cX3_demandVisitor 2 none, .methodLink RX3 259 yX2_hasGuest, .instanceMethod yX2_hasGuest, .selects RX2 yX2_hasGuest yX2_hasGuest, .initialized RX2, .code yX2_hasGuest cX2_hasGuest 2 (some .boolean), .fieldLink RX2 27 "GooseCodex$Guests" "count" "I", .methodLink RX3 50 yX3_demandIndex, .static yX3_demandIndex, .code yX3_demandIndex cX3_demandIndex 1 none, .classLink RX3 262 "java/lang/IndexOutOfBoundsException", .initialized "java/lang/IndexOutOfBoundsException"] ++ wsX30 ++ wsX00 ++ wsX20 ++ (vx_atS RX3 266 "java/lang/IndexOutOfBoundsException" ["java/lang/RuntimeException", "java/lang/Exception"]).filter goodWord)
def wsL_nerveOf : List Cond := .codeWith yL_nerveOf cL_nerveOf 4 (some .int) [(0, 9, 12, 21)] :: ([.classLink RL 21 "java/lang/IndexOutOfBoundsException", .methodLink RL 73 yX3_nerveOf, .instanceMethod yX3_nerveOf, .selects RX3 yX3_nerveOf yX3_nerveOf, .initialized RX3, .code yX3_nerveOf cX3_nerveOf 2 (some .int), .fieldLink RX3 10 "GooseCodex" "now" "LGooseCodex$Farm;", .fieldLink RX3 31 "GooseCodex$Farm" "guests" "LGooseCodex$Guests;", .fieldLink RX3 144 "GooseCodex$Guests" "nerve" "[I", .methodLink RX3 85 yX3_demandVisitor, .instanceMethod yX3_demandVisitor, .selects RX3 yX3_demandVisitor yX3_demandVisitor, .code yX3_demandVisitor cX3_demandVisitor 2 none, .methodLink RX3 259 yX2_hasGuest, .instanceMethod yX2_hasGuest, .selects RX2 yX2_hasGuest yX2_hasGuest, .initialized RX2, .code yX2_hasGuest cX2_hasGuest 2 (some .boolean), .fieldLink RX2 27 "GooseCodex$Guests" "count" "I", .methodLink RX3 50 yX3_demandIndex, .static yX3_demandIndex, .code yX3_demandIndex cX3_demandIndex 1 none, .classLink RX3 262 "java/lang/IndexOutOfBoundsException", .initialized "java/lang/IndexOutOfBoundsException"] ++ wsX30 ++ wsX00 ++ wsX20 ++ (vx_atS RX3 266 "java/lang/IndexOutOfBoundsException" ["java/lang/RuntimeException", "java/lang/Exception"]).filter goodWord)
def wsL_retreatOf : List Cond := .codeWith yL_retreatOf cL_retreatOf 4 (some .int) [(0, 9, 12, 21)] :: ([.classLink RL 21 "java/lang/IndexOutOfBoundsException", .methodLink RL 76 yX3_retreatOf, .instanceMethod yX3_retreatOf, .selects RX3 yX3_retreatOf yX3_retreatOf, .initialized RX3, .code yX3_retreatOf cX3_retreatOf 2 (some .int), .fieldLink RX3 10 "GooseCodex" "now" "LGooseCodex$Farm;", .fieldLink RX3 31 "GooseCodex$Farm" "guests" "LGooseCodex$Guests;", .fieldLink RX3 147 "GooseCodex$Guests" "retreat" "[I", .methodLink RX3 85 yX3_demandVisitor, .instanceMethod yX3_demandVisitor, .selects RX3 yX3_demandVisitor yX3_demandVisitor, .code yX3_demandVisitor cX3_demandVisitor 2 none, .methodLink RX3 259 yX2_hasGuest, .instanceMethod yX2_hasGuest, .selects RX2 yX2_hasGuest yX2_hasGuest, .initialized RX2, .code yX2_hasGuest cX2_hasGuest 2 (some .boolean), .fieldLink RX2 27 "GooseCodex$Guests" "count" "I", .methodLink RX3 50 yX3_demandIndex, .static yX3_demandIndex, .code yX3_demandIndex cX3_demandIndex 1 none, .classLink RX3 262 "java/lang/IndexOutOfBoundsException", .initialized "java/lang/IndexOutOfBoundsException"] ++ wsX30 ++ wsX00 ++ wsX20 ++ (vx_atS RX3 266 "java/lang/IndexOutOfBoundsException" ["java/lang/RuntimeException", "java/lang/Exception"]).filter goodWord)
def wsL_hissAt_r1 : List Cond := [Cond.classLink RL 21 "java/lang/IndexOutOfBoundsException", Cond.methodLink RL 79 yX3_hissAt, Cond.instanceMethod yX3_hissAt, Cond.selects RX3 yX3_hissAt yX3_hissAt, Cond.initialized RX3, Cond.code yX3_hissAt cX3_hissAt 2 (some .int), Cond.fieldLink RX3 10 "GooseCodex" "now" "LGooseCodex$Farm;", Cond.methodLink RX3 85 yX3_demandVisitor, Cond.instanceMethod yX3_demandVisitor, Cond.selects RX3 yX3_demandVisitor yX3_demandVisitor, Cond.code yX3_demandVisitor cX3_demandVisitor 2 none, Cond.fieldLink RX3 31 "GooseCodex$Farm" "guests" "LGooseCodex$Guests;", Cond.methodLink RX3 259 yX2_hasGuest, Cond.instanceMethod yX2_hasGuest, Cond.selects RX2 yX2_hasGuest yX2_hasGuest, Cond.initialized RX2, Cond.code yX2_hasGuest cX2_hasGuest 2 (some .boolean), Cond.fieldLink RX2 27 "GooseCodex$Guests" "count" "I", Cond.methodLink RX3 50 yX3_demandIndex, Cond.static yX3_demandIndex, Cond.code yX3_demandIndex cX3_demandIndex 1 none, Cond.classLink RX3 262 "java/lang/IndexOutOfBoundsException", Cond.initialized "java/lang/IndexOutOfBoundsException", Cond.methodLink RX3 150 yX0_guestHiss]
def wsL_hissAt_r2 : List Cond := [Cond.instanceMethod yX0_guestHiss, Cond.selects RX0 yX0_guestHiss yX0_guestHiss, Cond.initialized RX0, Cond.code yX0_guestHiss cX0_guestHiss 2 (some .int), Cond.fieldLink RX0 25 "GooseCodex$Farm" "guests" "LGooseCodex$Guests;", Cond.fieldLink RX0 49 "GooseCodex$Guests" "passed" "[I", Cond.fieldLink RX0 52 "GooseCodex$Guests" "rank" "[I", Cond.methodLink RX0 55 yX0_gateHiss, Cond.instanceMethod yX0_gateHiss, Cond.selects RX0 yX0_gateHiss yX0_gateHiss, Cond.code yX0_gateHiss cX0_gateHiss 3 (some .int), Cond.fieldLink RX0 18 "GooseCodex$Farm" "flock" "LGooseCodex$Flock;", Cond.methodLink RX0 43 yX0_rankLack, Cond.instanceMethod yX0_rankLack, Cond.selects RX0 yX0_rankLack yX0_rankLack, Cond.code yX0_rankLack cX0_rankLack 3 (some .int), Cond.fieldLink RX0 9 "GooseCodex$Farm" "ranks" "[I", Cond.methodLink RX0 37 Lib.Math.max.name, Cond.static Lib.Math.max.name, Cond.initialized "java/lang/Math", Cond.code Lib.Math.max.name Lib.Math.max.code 2 (some .int), Cond.methodLink RX0 33 yX0_hasGate, Cond.instanceMethod yX0_hasGate, Cond.selects RX0 yX0_hasGate yX0_hasGate]
def wsL_hissAt_r3 : List Cond := [Cond.code yX0_hasGate cX0_hasGate 2 (some .boolean), Cond.fieldLink RX0 29 "GooseCodex$Farm" "gateCount" "I", Cond.methodLink RX0 46 yX1_hissThere, Cond.instanceMethod yX1_hissThere, Cond.selects RX1 yX1_hissThere yX1_hissThere, Cond.initialized RX1, Cond.code yX1_hissThere cX1_hissThere 5 (some .int), Cond.fieldLink RX1 24 "GooseCodex$Flock" "count" "I", Cond.fieldLink RX1 15 "GooseCodex$Flock" "temper" "[I", Cond.methodLink RX1 28 yX1_isAwakeThere, Cond.instanceMethod yX1_isAwakeThere, Cond.selects RX1 yX1_isAwakeThere yX1_isAwakeThere, Cond.code yX1_isAwakeThere cX1_isAwakeThere 3 (some .boolean), Cond.fieldLink RX1 9 "GooseCodex$Flock" "gate" "[I", Cond.fieldLink RX1 18 "GooseCodex$Flock" "calm" "[I"]
def wsL_hissAt : List Cond := .codeWith yL_hissAt cL_hissAt 4 (some .int) [(0, 9, 12, 21)] :: ((wsL_hissAt_r1 ++ (wsL_hissAt_r2 ++ wsL_hissAt_r3)) ++ wsX30 ++ wsX00 ++ wsX20 ++ wsX10 ++ (vx_atS RX3 266 "java/lang/IndexOutOfBoundsException" ["java/lang/RuntimeException", "java/lang/Exception"]).filter goodWord)
def wsL_gradeFor_r1 : List Cond := [Cond.classLink RL 21 "java/lang/IndexOutOfBoundsException", Cond.methodLink RL 82 yX3_gradeFor, Cond.instanceMethod yX3_gradeFor, Cond.selects RX3 yX3_gradeFor yX3_gradeFor, Cond.initialized RX3, Cond.code yX3_gradeFor cX3_gradeFor 2 (some .int), Cond.fieldLink RX3 10 "GooseCodex" "now" "LGooseCodex$Farm;", Cond.methodLink RX3 85 yX3_demandVisitor, Cond.instanceMethod yX3_demandVisitor, Cond.selects RX3 yX3_demandVisitor yX3_demandVisitor, Cond.code yX3_demandVisitor cX3_demandVisitor 2 none, Cond.fieldLink RX3 31 "GooseCodex$Farm" "guests" "LGooseCodex$Guests;", Cond.methodLink RX3 259 yX2_hasGuest, Cond.instanceMethod yX2_hasGuest, Cond.selects RX2 yX2_hasGuest yX2_hasGuest, Cond.initialized RX2, Cond.code yX2_hasGuest cX2_hasGuest 2 (some .boolean), Cond.fieldLink RX2 27 "GooseCodex$Guests" "count" "I", Cond.methodLink RX3 50 yX3_demandIndex, Cond.static yX3_demandIndex, Cond.code yX3_demandIndex cX3_demandIndex 1 none, Cond.classLink RX3 262 "java/lang/IndexOutOfBoundsException", Cond.initialized "java/lang/IndexOutOfBoundsException", Cond.methodLink RX3 150 yX0_guestHiss]
def wsL_gradeFor_r2 : List Cond := [Cond.instanceMethod yX0_guestHiss, Cond.selects RX0 yX0_guestHiss yX0_guestHiss, Cond.initialized RX0, Cond.code yX0_guestHiss cX0_guestHiss 2 (some .int), Cond.fieldLink RX0 25 "GooseCodex$Farm" "guests" "LGooseCodex$Guests;", Cond.fieldLink RX0 49 "GooseCodex$Guests" "passed" "[I", Cond.fieldLink RX0 52 "GooseCodex$Guests" "rank" "[I", Cond.methodLink RX0 55 yX0_gateHiss, Cond.instanceMethod yX0_gateHiss, Cond.selects RX0 yX0_gateHiss yX0_gateHiss, Cond.code yX0_gateHiss cX0_gateHiss 3 (some .int), Cond.fieldLink RX0 18 "GooseCodex$Farm" "flock" "LGooseCodex$Flock;", Cond.methodLink RX0 43 yX0_rankLack, Cond.instanceMethod yX0_rankLack, Cond.selects RX0 yX0_rankLack yX0_rankLack, Cond.code yX0_rankLack cX0_rankLack 3 (some .int), Cond.fieldLink RX0 9 "GooseCodex$Farm" "ranks" "[I", Cond.methodLink RX0 37 Lib.Math.max.name, Cond.static Lib.Math.max.name, Cond.initialized "java/lang/Math", Cond.code Lib.Math.max.name Lib.Math.max.code 2 (some .int), Cond.methodLink RX0 33 yX0_hasGate, Cond.instanceMethod yX0_hasGate, Cond.selects RX0 yX0_hasGate yX0_hasGate]
def wsL_gradeFor_r3 : List Cond := [Cond.code yX0_hasGate cX0_hasGate 2 (some .boolean), Cond.fieldLink RX0 29 "GooseCodex$Farm" "gateCount" "I", Cond.methodLink RX0 46 yX1_hissThere, Cond.instanceMethod yX1_hissThere, Cond.selects RX1 yX1_hissThere yX1_hissThere, Cond.initialized RX1, Cond.code yX1_hissThere cX1_hissThere 5 (some .int), Cond.fieldLink RX1 24 "GooseCodex$Flock" "count" "I", Cond.fieldLink RX1 15 "GooseCodex$Flock" "temper" "[I", Cond.methodLink RX1 28 yX1_isAwakeThere, Cond.instanceMethod yX1_isAwakeThere, Cond.selects RX1 yX1_isAwakeThere yX1_isAwakeThere, Cond.code yX1_isAwakeThere cX1_isAwakeThere 3 (some .boolean), Cond.fieldLink RX1 9 "GooseCodex$Flock" "gate" "[I", Cond.fieldLink RX1 18 "GooseCodex$Flock" "calm" "[I", Cond.methodLink RX3 153 yX3_gradeOfHiss, Cond.static yX3_gradeOfHiss, Cond.code yX3_gradeOfHiss cX3_gradeOfHiss 1 (some .int)]
def wsL_gradeFor : List Cond := .codeWith yL_gradeFor cL_gradeFor 4 (some .int) [(0, 9, 12, 21)] :: ((wsL_gradeFor_r1 ++ (wsL_gradeFor_r2 ++ wsL_gradeFor_r3)) ++ wsX30 ++ wsX00 ++ wsX20 ++ wsX10 ++ (vx_atS RX3 266 "java/lang/IndexOutOfBoundsException" ["java/lang/RuntimeException", "java/lang/Exception"]).filter goodWord)
def wsL_dares_r1 : List Cond := [Cond.classLink RL 21 "java/lang/IndexOutOfBoundsException", Cond.methodLink RL 85 yX3_dares, Cond.instanceMethod yX3_dares, Cond.selects RX3 yX3_dares yX3_dares, Cond.initialized RX3, Cond.code yX3_dares cX3_dares 2 (some .boolean), Cond.fieldLink RX3 10 "GooseCodex" "now" "LGooseCodex$Farm;", Cond.fieldLink RX3 31 "GooseCodex$Farm" "guests" "LGooseCodex$Guests;", Cond.fieldLink RX3 144 "GooseCodex$Guests" "nerve" "[I", Cond.methodLink RX3 85 yX3_demandVisitor, Cond.instanceMethod yX3_demandVisitor, Cond.selects RX3 yX3_demandVisitor yX3_demandVisitor, Cond.code yX3_demandVisitor cX3_demandVisitor 2 none, Cond.methodLink RX3 259 yX2_hasGuest, Cond.instanceMethod yX2_hasGuest, Cond.selects RX2 yX2_hasGuest yX2_hasGuest, Cond.initialized RX2, Cond.code yX2_hasGuest cX2_hasGuest 2 (some .boolean), Cond.fieldLink RX2 27 "GooseCodex$Guests" "count" "I", Cond.methodLink RX3 50 yX3_demandIndex, Cond.static yX3_demandIndex, Cond.code yX3_demandIndex cX3_demandIndex 1 none, Cond.classLink RX3 262 "java/lang/IndexOutOfBoundsException", Cond.initialized "java/lang/IndexOutOfBoundsException"]
def wsL_dares_r2 : List Cond := [Cond.methodLink RX3 100 yX0_isBehindAll, Cond.instanceMethod yX0_isBehindAll, Cond.selects RX0 yX0_isBehindAll yX0_isBehindAll, Cond.initialized RX0, Cond.code yX0_isBehindAll cX0_isBehindAll 2 (some .boolean), Cond.fieldLink RX0 25 "GooseCodex$Farm" "guests" "LGooseCodex$Guests;", Cond.fieldLink RX0 49 "GooseCodex$Guests" "passed" "[I", Cond.fieldLink RX0 29 "GooseCodex$Farm" "gateCount" "I", Cond.methodLink RX3 150 yX0_guestHiss, Cond.instanceMethod yX0_guestHiss, Cond.selects RX0 yX0_guestHiss yX0_guestHiss, Cond.code yX0_guestHiss cX0_guestHiss 2 (some .int), Cond.fieldLink RX0 52 "GooseCodex$Guests" "rank" "[I", Cond.methodLink RX0 55 yX0_gateHiss, Cond.instanceMethod yX0_gateHiss, Cond.selects RX0 yX0_gateHiss yX0_gateHiss, Cond.code yX0_gateHiss cX0_gateHiss 3 (some .int), Cond.fieldLink RX0 18 "GooseCodex$Farm" "flock" "LGooseCodex$Flock;", Cond.methodLink RX0 43 yX0_rankLack, Cond.instanceMethod yX0_rankLack, Cond.selects RX0 yX0_rankLack yX0_rankLack, Cond.code yX0_rankLack cX0_rankLack 3 (some .int), Cond.fieldLink RX0 9 "GooseCodex$Farm" "ranks" "[I", Cond.methodLink RX0 37 Lib.Math.max.name]
def wsL_dares_r3 : List Cond := [Cond.static Lib.Math.max.name, Cond.initialized "java/lang/Math", Cond.code Lib.Math.max.name Lib.Math.max.code 2 (some .int), Cond.methodLink RX0 33 yX0_hasGate, Cond.instanceMethod yX0_hasGate, Cond.selects RX0 yX0_hasGate yX0_hasGate, Cond.code yX0_hasGate cX0_hasGate 2 (some .boolean), Cond.methodLink RX0 46 yX1_hissThere, Cond.instanceMethod yX1_hissThere, Cond.selects RX1 yX1_hissThere yX1_hissThere, Cond.initialized RX1, Cond.code yX1_hissThere cX1_hissThere 5 (some .int), Cond.fieldLink RX1 24 "GooseCodex$Flock" "count" "I", Cond.fieldLink RX1 15 "GooseCodex$Flock" "temper" "[I", Cond.methodLink RX1 28 yX1_isAwakeThere, Cond.instanceMethod yX1_isAwakeThere, Cond.selects RX1 yX1_isAwakeThere yX1_isAwakeThere, Cond.code yX1_isAwakeThere cX1_isAwakeThere 3 (some .boolean), Cond.fieldLink RX1 9 "GooseCodex$Flock" "gate" "[I", Cond.fieldLink RX1 18 "GooseCodex$Flock" "calm" "[I"]
def wsL_dares : List Cond := .codeWith yL_dares cL_dares 4 (some .int) [(0, 16, 19, 21)] :: ((wsL_dares_r1 ++ (wsL_dares_r2 ++ wsL_dares_r3)) ++ wsX30 ++ wsX00 ++ wsX20 ++ wsX10 ++ (vx_atS RX3 266 "java/lang/IndexOutOfBoundsException" ["java/lang/RuntimeException", "java/lang/Exception"]).filter goodWord)
def wsL_beatsUntilIn_r1 : List Cond := [Cond.classLink RL 21 "java/lang/IndexOutOfBoundsException", Cond.methodLink RL 88 yX3_beatsUntilIn, Cond.instanceMethod yX3_beatsUntilIn, Cond.selects RX3 yX3_beatsUntilIn yX3_beatsUntilIn, Cond.initialized RX3, Cond.code yX3_beatsUntilIn cX3_beatsUntilIn 2 (some .int), Cond.fieldLink RX3 16 "GooseCodex" "trial" "LGooseCodex$Farm;", Cond.fieldLink RX3 10 "GooseCodex" "now" "LGooseCodex$Farm;", Cond.methodLink RX3 85 yX3_demandVisitor, Cond.instanceMethod yX3_demandVisitor, Cond.selects RX3 yX3_demandVisitor yX3_demandVisitor, Cond.code yX3_demandVisitor cX3_demandVisitor 2 none, Cond.fieldLink RX3 31 "GooseCodex$Farm" "guests" "LGooseCodex$Guests;", Cond.methodLink RX3 259 yX2_hasGuest, Cond.instanceMethod yX2_hasGuest, Cond.selects RX2 yX2_hasGuest yX2_hasGuest, Cond.initialized RX2, Cond.code yX2_hasGuest cX2_hasGuest 2 (some .boolean), Cond.fieldLink RX2 27 "GooseCodex$Guests" "count" "I", Cond.methodLink RX3 50 yX3_demandIndex, Cond.static yX3_demandIndex, Cond.code yX3_demandIndex cX3_demandIndex 1 none, Cond.classLink RX3 262 "java/lang/IndexOutOfBoundsException", Cond.initialized "java/lang/IndexOutOfBoundsException"]
def wsL_beatsUntilIn_r2 : List Cond := [Cond.methodLink RX3 156 yX0_copyFrom, Cond.instanceMethod yX0_copyFrom, Cond.selects RX0 yX0_copyFrom yX0_copyFrom, Cond.initialized RX0, Cond.code yX0_copyFrom cX0_copyFrom 2 none, Cond.fieldLink RX0 29 "GooseCodex$Farm" "gateCount" "I", Cond.fieldLink RX0 9 "GooseCodex$Farm" "ranks" "[I", Cond.methodLink RX0 126 arraycopyName, Cond.native arraycopyName, Cond.static arraycopyName, Cond.initialized "java/lang/System", Cond.fieldLink RX0 18 "GooseCodex$Farm" "flock" "LGooseCodex$Flock;", Cond.fieldLink RX0 25 "GooseCodex$Farm" "guests" "LGooseCodex$Guests;", Cond.fieldLink RX0 98 "GooseCodex$Farm" "beat" "I", Cond.fieldLink RX0 71 "GooseCodex$Farm" "bribeCount" "I", Cond.fieldLink RX0 123 "GooseCodex$Farm" "retreatCount" "I", Cond.methodLink RX0 132 yX1_copyFrom, Cond.instanceMethod yX1_copyFrom, Cond.selects RX1 yX1_copyFrom yX1_copyFrom, Cond.initialized RX1, Cond.code yX1_copyFrom cX1_copyFrom 2 none, Cond.fieldLink RX1 24 "GooseCodex$Flock" "count" "I", Cond.fieldLink RX1 9 "GooseCodex$Flock" "gate" "[I", Cond.methodLink RX1 41 arraycopyName]
def wsL_beatsUntilIn_r3 : List Cond := [Cond.fieldLink RX1 15 "GooseCodex$Flock" "temper" "[I", Cond.fieldLink RX1 18 "GooseCodex$Flock" "calm" "[I", Cond.fieldLink RX1 21 "GooseCodex$Flock" "eaten" "[I", Cond.methodLink RX0 136 yX2_copyFrom, Cond.instanceMethod yX2_copyFrom, Cond.selects RX2 yX2_copyFrom yX2_copyFrom, Cond.code yX2_copyFrom cX2_copyFrom 2 none, Cond.fieldLink RX2 9 "GooseCodex$Guests" "rank" "[I", Cond.methodLink RX2 37 arraycopyName, Cond.fieldLink RX2 15 "GooseCodex$Guests" "nerve" "[I", Cond.fieldLink RX2 18 "GooseCodex$Guests" "corns" "[I", Cond.fieldLink RX2 21 "GooseCodex$Guests" "passed" "[I", Cond.fieldLink RX2 24 "GooseCodex$Guests" "retreat" "[I", Cond.methodLink RX3 160 yX0_beatsToFarm, Cond.instanceMethod yX0_beatsToFarm, Cond.selects RX0 yX0_beatsToFarm yX0_beatsToFarm, Cond.code yX0_beatsToFarm cX0_beatsToFarm 4 (some .int), Cond.methodLink RX0 61 yX0_isBehindAll, Cond.instanceMethod yX0_isBehindAll, Cond.selects RX0 yX0_isBehindAll yX0_isBehindAll, Cond.code yX0_isBehindAll cX0_isBehindAll 2 (some .boolean), Cond.fieldLink RX0 49 "GooseCodex$Guests" "passed" "[I", Cond.methodLink RX0 89 yX0_runBeat, Cond.instanceMethod yX0_runBeat]
def wsL_beatsUntilIn_r4 : List Cond := [Cond.selects RX0 yX0_runBeat yX0_runBeat, Cond.code yX0_runBeat cX0_runBeat 2 none, Cond.fieldLink RX0 58 "GooseCodex$Guests" "count" "I", Cond.methodLink RX0 92 yX1_wakeByABeat, Cond.instanceMethod yX1_wakeByABeat, Cond.selects RX1 yX1_wakeByABeat yX1_wakeByABeat, Cond.code yX1_wakeByABeat cX1_wakeByABeat 2 none, Cond.methodLink RX0 95 yX0_moveGuest, Cond.instanceMethod yX0_moveGuest, Cond.selects RX0 yX0_moveGuest yX0_moveGuest, Cond.code yX0_moveGuest cX0_moveGuest 5 none, Cond.fieldLink RX0 101 "GooseCodex$Guests" "retreat" "[I", Cond.fieldLink RX0 52 "GooseCodex$Guests" "rank" "[I", Cond.fieldLink RX0 79 "GooseCodex$Guests" "nerve" "[I", Cond.fieldLink RX0 64 "GooseCodex$Guests" "corns" "[I", Cond.methodLink RX0 55 yX0_gateHiss, Cond.instanceMethod yX0_gateHiss, Cond.selects RX0 yX0_gateHiss yX0_gateHiss, Cond.code yX0_gateHiss cX0_gateHiss 3 (some .int), Cond.methodLink RX0 43 yX0_rankLack, Cond.instanceMethod yX0_rankLack, Cond.selects RX0 yX0_rankLack yX0_rankLack, Cond.code yX0_rankLack cX0_rankLack 3 (some .int), Cond.methodLink RX0 37 Lib.Math.max.name]
def wsL_beatsUntilIn_r5 : List Cond := [Cond.static Lib.Math.max.name, Cond.initialized "java/lang/Math", Cond.code Lib.Math.max.name Lib.Math.max.code 2 (some .int), Cond.methodLink RX0 33 yX0_hasGate, Cond.instanceMethod yX0_hasGate, Cond.selects RX0 yX0_hasGate yX0_hasGate, Cond.code yX0_hasGate cX0_hasGate 2 (some .boolean), Cond.methodLink RX0 46 yX1_hissThere, Cond.instanceMethod yX1_hissThere, Cond.selects RX1 yX1_hissThere yX1_hissThere, Cond.code yX1_hissThere cX1_hissThere 5 (some .int), Cond.methodLink RX1 28 yX1_isAwakeThere, Cond.instanceMethod yX1_isAwakeThere, Cond.selects RX1 yX1_isAwakeThere yX1_isAwakeThere, Cond.code yX1_isAwakeThere cX1_isAwakeThere 3 (some .boolean), Cond.methodLink RX0 104 yX1_enrage, Cond.instanceMethod yX1_enrage, Cond.selects RX1 yX1_enrage yX1_enrage, Cond.code yX1_enrage cX1_enrage 3 none, Cond.methodLink RX1 38 Lib.Math.min.name, Cond.static Lib.Math.min.name, Cond.code Lib.Math.min.name Lib.Math.min.code 2 (some .int), Cond.methodLink RX0 107 yX1_fiercestAwake, Cond.instanceMethod yX1_fiercestAwake]
def wsL_beatsUntilIn_r6 : List Cond := [Cond.selects RX1 yX1_fiercestAwake yX1_fiercestAwake, Cond.code yX1_fiercestAwake cX1_fiercestAwake 5 (some .int), Cond.methodLink RX0 110 yX1_hasGoose, Cond.instanceMethod yX1_hasGoose, Cond.selects RX1 yX1_hasGoose yX1_hasGoose, Cond.code yX1_hasGoose cX1_hasGoose 2 (some .boolean), Cond.methodLink RX0 113 yX0_payGoose, Cond.instanceMethod yX0_payGoose, Cond.selects RX0 yX0_payGoose yX0_payGoose, Cond.code yX0_payGoose cX0_payGoose 3 none, Cond.methodLink RX0 67 yX1_feed, Cond.instanceMethod yX1_feed, Cond.selects RX1 yX1_feed yX1_feed, Cond.code yX1_feed cX1_feed 2 none, Cond.methodLink RX1 32 Lib.Math.max.name, Cond.static yX3_gradeOfHiss, Cond.code yX3_gradeOfHiss cX3_gradeOfHiss 1 (some .int), Cond.methodLink RX0 120 yX2_fallBack, Cond.instanceMethod yX2_fallBack, Cond.selects RX2 yX2_fallBack yX2_fallBack, Cond.code yX2_fallBack cX2_fallBack 3 none, Cond.methodLink RX2 31 Lib.Math.min.name]
def wsL_beatsUntilIn : List Cond := .codeWith yL_beatsUntilIn cL_beatsUntilIn 4 (some .int) [(0, 9, 12, 21)] :: ((wsL_beatsUntilIn_r1 ++ (wsL_beatsUntilIn_r2 ++ (wsL_beatsUntilIn_r3 ++ (wsL_beatsUntilIn_r4 ++ (wsL_beatsUntilIn_r5 ++ wsL_beatsUntilIn_r6))))) ++ wsX30 ++ wsX00 ++ wsX20 ++ wsX10 ++ (vx_atS RX3 266 "java/lang/IndexOutOfBoundsException" ["java/lang/RuntimeException", "java/lang/Exception"]).filter goodWord)
def wsL_inFarmAfter_r1 : List Cond := [Cond.classLink RL 13 "java/lang/IllegalArgumentException", Cond.methodLink RL 91 yX3_inFarmAfter, Cond.instanceMethod yX3_inFarmAfter, Cond.selects RX3 yX3_inFarmAfter yX3_inFarmAfter, Cond.initialized RX3, Cond.code yX3_inFarmAfter cX3_inFarmAfter 2 (some .int), Cond.fieldLink RX3 16 "GooseCodex" "trial" "LGooseCodex$Farm;", Cond.fieldLink RX3 10 "GooseCodex" "now" "LGooseCodex$Farm;", Cond.methodLink RX3 113 yX3_isBeats, Cond.static yX3_isBeats, Cond.code yX3_isBeats cX3_isBeats 1 (some .boolean), Cond.methodLink RX3 53 yX3_isWithin, Cond.static yX3_isWithin, Cond.code yX3_isWithin cX3_isWithin 3 (some .boolean), Cond.methodLink RX3 23 yX3_demandArgument, Cond.static yX3_demandArgument, Cond.code yX3_demandArgument cX3_demandArgument 1 none, Cond.classLink RX3 269 "java/lang/IllegalArgumentException", Cond.initialized "java/lang/IllegalArgumentException", Cond.methodLink RX3 156 yX0_copyFrom, Cond.instanceMethod yX0_copyFrom, Cond.selects RX0 yX0_copyFrom yX0_copyFrom, Cond.initialized RX0, Cond.code yX0_copyFrom cX0_copyFrom 2 none]
def wsL_inFarmAfter_r2 : List Cond := [Cond.fieldLink RX0 29 "GooseCodex$Farm" "gateCount" "I", Cond.fieldLink RX0 9 "GooseCodex$Farm" "ranks" "[I", Cond.methodLink RX0 126 arraycopyName, Cond.native arraycopyName, Cond.static arraycopyName, Cond.initialized "java/lang/System", Cond.fieldLink RX0 18 "GooseCodex$Farm" "flock" "LGooseCodex$Flock;", Cond.fieldLink RX0 25 "GooseCodex$Farm" "guests" "LGooseCodex$Guests;", Cond.fieldLink RX0 98 "GooseCodex$Farm" "beat" "I", Cond.fieldLink RX0 71 "GooseCodex$Farm" "bribeCount" "I", Cond.fieldLink RX0 123 "GooseCodex$Farm" "retreatCount" "I", Cond.methodLink RX0 132 yX1_copyFrom, Cond.instanceMethod yX1_copyFrom, Cond.selects RX1 yX1_copyFrom yX1_copyFrom, Cond.initialized RX1, Cond.code yX1_copyFrom cX1_copyFrom 2 none, Cond.fieldLink RX1 24 "GooseCodex$Flock" "count" "I", Cond.fieldLink RX1 9 "GooseCodex$Flock" "gate" "[I", Cond.methodLink RX1 41 arraycopyName, Cond.fieldLink RX1 15 "GooseCodex$Flock" "temper" "[I", Cond.fieldLink RX1 18 "GooseCodex$Flock" "calm" "[I", Cond.fieldLink RX1 21 "GooseCodex$Flock" "eaten" "[I", Cond.methodLink RX0 136 yX2_copyFrom, Cond.instanceMethod yX2_copyFrom]
def wsL_inFarmAfter_r3 : List Cond := [Cond.selects RX2 yX2_copyFrom yX2_copyFrom, Cond.initialized RX2, Cond.code yX2_copyFrom cX2_copyFrom 2 none, Cond.fieldLink RX2 27 "GooseCodex$Guests" "count" "I", Cond.fieldLink RX2 9 "GooseCodex$Guests" "rank" "[I", Cond.methodLink RX2 37 arraycopyName, Cond.fieldLink RX2 15 "GooseCodex$Guests" "nerve" "[I", Cond.fieldLink RX2 18 "GooseCodex$Guests" "corns" "[I", Cond.fieldLink RX2 21 "GooseCodex$Guests" "passed" "[I", Cond.fieldLink RX2 24 "GooseCodex$Guests" "retreat" "[I", Cond.methodLink RX3 120 yX0_runBeats, Cond.instanceMethod yX0_runBeats, Cond.selects RX0 yX0_runBeats yX0_runBeats, Cond.code yX0_runBeats cX0_runBeats 3 none, Cond.methodLink RX0 89 yX0_runBeat, Cond.instanceMethod yX0_runBeat, Cond.selects RX0 yX0_runBeat yX0_runBeat, Cond.code yX0_runBeat cX0_runBeat 2 none, Cond.fieldLink RX0 58 "GooseCodex$Guests" "count" "I", Cond.methodLink RX0 92 yX1_wakeByABeat, Cond.instanceMethod yX1_wakeByABeat, Cond.selects RX1 yX1_wakeByABeat yX1_wakeByABeat, Cond.code yX1_wakeByABeat cX1_wakeByABeat 2 none, Cond.methodLink RX0 61 yX0_isBehindAll]
def wsL_inFarmAfter_r4 : List Cond := [Cond.instanceMethod yX0_isBehindAll, Cond.selects RX0 yX0_isBehindAll yX0_isBehindAll, Cond.code yX0_isBehindAll cX0_isBehindAll 2 (some .boolean), Cond.fieldLink RX0 49 "GooseCodex$Guests" "passed" "[I", Cond.methodLink RX0 95 yX0_moveGuest, Cond.instanceMethod yX0_moveGuest, Cond.selects RX0 yX0_moveGuest yX0_moveGuest, Cond.code yX0_moveGuest cX0_moveGuest 5 none, Cond.fieldLink RX0 101 "GooseCodex$Guests" "retreat" "[I", Cond.fieldLink RX0 52 "GooseCodex$Guests" "rank" "[I", Cond.fieldLink RX0 79 "GooseCodex$Guests" "nerve" "[I", Cond.fieldLink RX0 64 "GooseCodex$Guests" "corns" "[I", Cond.methodLink RX0 55 yX0_gateHiss, Cond.instanceMethod yX0_gateHiss, Cond.selects RX0 yX0_gateHiss yX0_gateHiss, Cond.code yX0_gateHiss cX0_gateHiss 3 (some .int), Cond.methodLink RX0 43 yX0_rankLack, Cond.instanceMethod yX0_rankLack, Cond.selects RX0 yX0_rankLack yX0_rankLack, Cond.code yX0_rankLack cX0_rankLack 3 (some .int), Cond.methodLink RX0 37 Lib.Math.max.name, Cond.static Lib.Math.max.name, Cond.initialized "java/lang/Math", Cond.code Lib.Math.max.name Lib.Math.max.code 2 (some .int)]
def wsL_inFarmAfter_r5 : List Cond := [Cond.methodLink RX0 33 yX0_hasGate, Cond.instanceMethod yX0_hasGate, Cond.selects RX0 yX0_hasGate yX0_hasGate, Cond.code yX0_hasGate cX0_hasGate 2 (some .boolean), Cond.methodLink RX0 46 yX1_hissThere, Cond.instanceMethod yX1_hissThere, Cond.selects RX1 yX1_hissThere yX1_hissThere, Cond.code yX1_hissThere cX1_hissThere 5 (some .int), Cond.methodLink RX1 28 yX1_isAwakeThere, Cond.instanceMethod yX1_isAwakeThere, Cond.selects RX1 yX1_isAwakeThere yX1_isAwakeThere, Cond.code yX1_isAwakeThere cX1_isAwakeThere 3 (some .boolean), Cond.methodLink RX0 104 yX1_enrage, Cond.instanceMethod yX1_enrage, Cond.selects RX1 yX1_enrage yX1_enrage, Cond.code yX1_enrage cX1_enrage 3 none, Cond.methodLink RX1 38 Lib.Math.min.name, Cond.static Lib.Math.min.name, Cond.code Lib.Math.min.name Lib.Math.min.code 2 (some .int), Cond.methodLink RX0 107 yX1_fiercestAwake, Cond.instanceMethod yX1_fiercestAwake, Cond.selects RX1 yX1_fiercestAwake yX1_fiercestAwake, Cond.code yX1_fiercestAwake cX1_fiercestAwake 5 (some .int), Cond.methodLink RX0 110 yX1_hasGoose]
def wsL_inFarmAfter_r6 : List Cond := [Cond.instanceMethod yX1_hasGoose, Cond.selects RX1 yX1_hasGoose yX1_hasGoose, Cond.code yX1_hasGoose cX1_hasGoose 2 (some .boolean), Cond.methodLink RX0 113 yX0_payGoose, Cond.instanceMethod yX0_payGoose, Cond.selects RX0 yX0_payGoose yX0_payGoose, Cond.code yX0_payGoose cX0_payGoose 3 none, Cond.methodLink RX0 67 yX1_feed, Cond.instanceMethod yX1_feed, Cond.selects RX1 yX1_feed yX1_feed, Cond.code yX1_feed cX1_feed 2 none, Cond.methodLink RX1 32 Lib.Math.max.name, Cond.static yX3_gradeOfHiss, Cond.code yX3_gradeOfHiss cX3_gradeOfHiss 1 (some .int), Cond.methodLink RX0 120 yX2_fallBack, Cond.instanceMethod yX2_fallBack, Cond.selects RX2 yX2_fallBack yX2_fallBack, Cond.code yX2_fallBack cX2_fallBack 3 none, Cond.methodLink RX2 31 Lib.Math.min.name, Cond.methodLink RX3 116 yX0_countInside, Cond.instanceMethod yX0_countInside, Cond.selects RX0 yX0_countInside yX0_countInside, Cond.code yX0_countInside cX0_countInside 3 (some .int)]
def wsL_inFarmAfter : List Cond := .codeWith yL_inFarmAfter cL_inFarmAfter 4 (some .int) [(0, 9, 12, 13)] :: ((wsL_inFarmAfter_r1 ++ (wsL_inFarmAfter_r2 ++ (wsL_inFarmAfter_r3 ++ (wsL_inFarmAfter_r4 ++ (wsL_inFarmAfter_r5 ++ wsL_inFarmAfter_r6))))) ++ wsX30 ++ wsX00 ++ wsX10 ++ wsX20 ++ (vx_atS RX3 273 "java/lang/IllegalArgumentException" ["java/lang/RuntimeException", "java/lang/Exception"]).filter goodWord)
def wsL_cornsWanted_r1 : List Cond := [Cond.classLink RL 21 "java/lang/IndexOutOfBoundsException", Cond.methodLink RL 94 yX3_cornsWanted, Cond.instanceMethod yX3_cornsWanted, Cond.selects RX3 yX3_cornsWanted yX3_cornsWanted, Cond.initialized RX3, Cond.code yX3_cornsWanted cX3_cornsWanted 3 (some .int), Cond.fieldLink RX3 16 "GooseCodex" "trial" "LGooseCodex$Farm;", Cond.fieldLink RX3 10 "GooseCodex" "now" "LGooseCodex$Farm;", Cond.fieldLink RX3 31 "GooseCodex$Farm" "guests" "LGooseCodex$Guests;", Cond.fieldLink RX3 89 "GooseCodex$Guests" "corns" "[I", Cond.methodLink RX3 85 yX3_demandVisitor, Cond.instanceMethod yX3_demandVisitor, Cond.selects RX3 yX3_demandVisitor yX3_demandVisitor, Cond.code yX3_demandVisitor cX3_demandVisitor 2 none, Cond.methodLink RX3 259 yX2_hasGuest, Cond.instanceMethod yX2_hasGuest, Cond.selects RX2 yX2_hasGuest yX2_hasGuest, Cond.initialized RX2, Cond.code yX2_hasGuest cX2_hasGuest 2 (some .boolean), Cond.fieldLink RX2 27 "GooseCodex$Guests" "count" "I", Cond.methodLink RX3 50 yX3_demandIndex, Cond.static yX3_demandIndex, Cond.code yX3_demandIndex cX3_demandIndex 1 none, Cond.classLink RX3 262 "java/lang/IndexOutOfBoundsException"]
def wsL_cornsWanted_r2 : List Cond := [Cond.initialized "java/lang/IndexOutOfBoundsException", Cond.methodLink RX3 156 yX0_copyFrom, Cond.instanceMethod yX0_copyFrom, Cond.selects RX0 yX0_copyFrom yX0_copyFrom, Cond.initialized RX0, Cond.code yX0_copyFrom cX0_copyFrom 2 none, Cond.fieldLink RX0 29 "GooseCodex$Farm" "gateCount" "I", Cond.fieldLink RX0 9 "GooseCodex$Farm" "ranks" "[I", Cond.methodLink RX0 126 arraycopyName, Cond.native arraycopyName, Cond.static arraycopyName, Cond.initialized "java/lang/System", Cond.fieldLink RX0 18 "GooseCodex$Farm" "flock" "LGooseCodex$Flock;", Cond.fieldLink RX0 25 "GooseCodex$Farm" "guests" "LGooseCodex$Guests;", Cond.fieldLink RX0 98 "GooseCodex$Farm" "beat" "I", Cond.fieldLink RX0 71 "GooseCodex$Farm" "bribeCount" "I", Cond.fieldLink RX0 123 "GooseCodex$Farm" "retreatCount" "I", Cond.methodLink RX0 132 yX1_copyFrom, Cond.instanceMethod yX1_copyFrom, Cond.selects RX1 yX1_copyFrom yX1_copyFrom, Cond.initialized RX1, Cond.code yX1_copyFrom cX1_copyFrom 2 none, Cond.fieldLink RX1 24 "GooseCodex$Flock" "count" "I", Cond.fieldLink RX1 9 "GooseCodex$Flock" "gate" "[I"]
def wsL_cornsWanted_r3 : List Cond := [Cond.methodLink RX1 41 arraycopyName, Cond.fieldLink RX1 15 "GooseCodex$Flock" "temper" "[I", Cond.fieldLink RX1 18 "GooseCodex$Flock" "calm" "[I", Cond.fieldLink RX1 21 "GooseCodex$Flock" "eaten" "[I", Cond.methodLink RX0 136 yX2_copyFrom, Cond.instanceMethod yX2_copyFrom, Cond.selects RX2 yX2_copyFrom yX2_copyFrom, Cond.code yX2_copyFrom cX2_copyFrom 2 none, Cond.fieldLink RX2 9 "GooseCodex$Guests" "rank" "[I", Cond.methodLink RX2 37 arraycopyName, Cond.fieldLink RX2 15 "GooseCodex$Guests" "nerve" "[I", Cond.fieldLink RX2 18 "GooseCodex$Guests" "corns" "[I", Cond.fieldLink RX2 21 "GooseCodex$Guests" "passed" "[I", Cond.fieldLink RX2 24 "GooseCodex$Guests" "retreat" "[I", Cond.methodLink RX3 160 yX0_beatsToFarm, Cond.instanceMethod yX0_beatsToFarm, Cond.selects RX0 yX0_beatsToFarm yX0_beatsToFarm, Cond.code yX0_beatsToFarm cX0_beatsToFarm 4 (some .int), Cond.methodLink RX0 61 yX0_isBehindAll, Cond.instanceMethod yX0_isBehindAll, Cond.selects RX0 yX0_isBehindAll yX0_isBehindAll, Cond.code yX0_isBehindAll cX0_isBehindAll 2 (some .boolean), Cond.fieldLink RX0 49 "GooseCodex$Guests" "passed" "[I", Cond.methodLink RX0 89 yX0_runBeat]
def wsL_cornsWanted_r4 : List Cond := [Cond.instanceMethod yX0_runBeat, Cond.selects RX0 yX0_runBeat yX0_runBeat, Cond.code yX0_runBeat cX0_runBeat 2 none, Cond.fieldLink RX0 58 "GooseCodex$Guests" "count" "I", Cond.methodLink RX0 92 yX1_wakeByABeat, Cond.instanceMethod yX1_wakeByABeat, Cond.selects RX1 yX1_wakeByABeat yX1_wakeByABeat, Cond.code yX1_wakeByABeat cX1_wakeByABeat 2 none, Cond.methodLink RX0 95 yX0_moveGuest, Cond.instanceMethod yX0_moveGuest, Cond.selects RX0 yX0_moveGuest yX0_moveGuest, Cond.code yX0_moveGuest cX0_moveGuest 5 none, Cond.fieldLink RX0 101 "GooseCodex$Guests" "retreat" "[I", Cond.fieldLink RX0 52 "GooseCodex$Guests" "rank" "[I", Cond.fieldLink RX0 79 "GooseCodex$Guests" "nerve" "[I", Cond.fieldLink RX0 64 "GooseCodex$Guests" "corns" "[I", Cond.methodLink RX0 55 yX0_gateHiss, Cond.instanceMethod yX0_gateHiss, Cond.selects RX0 yX0_gateHiss yX0_gateHiss, Cond.code yX0_gateHiss cX0_gateHiss 3 (some .int), Cond.methodLink RX0 43 yX0_rankLack, Cond.instanceMethod yX0_rankLack, Cond.selects RX0 yX0_rankLack yX0_rankLack, Cond.code yX0_rankLack cX0_rankLack 3 (some .int)]
def wsL_cornsWanted_r5 : List Cond := [Cond.methodLink RX0 37 Lib.Math.max.name, Cond.static Lib.Math.max.name, Cond.initialized "java/lang/Math", Cond.code Lib.Math.max.name Lib.Math.max.code 2 (some .int), Cond.methodLink RX0 33 yX0_hasGate, Cond.instanceMethod yX0_hasGate, Cond.selects RX0 yX0_hasGate yX0_hasGate, Cond.code yX0_hasGate cX0_hasGate 2 (some .boolean), Cond.methodLink RX0 46 yX1_hissThere, Cond.instanceMethod yX1_hissThere, Cond.selects RX1 yX1_hissThere yX1_hissThere, Cond.code yX1_hissThere cX1_hissThere 5 (some .int), Cond.methodLink RX1 28 yX1_isAwakeThere, Cond.instanceMethod yX1_isAwakeThere, Cond.selects RX1 yX1_isAwakeThere yX1_isAwakeThere, Cond.code yX1_isAwakeThere cX1_isAwakeThere 3 (some .boolean), Cond.methodLink RX0 104 yX1_enrage, Cond.instanceMethod yX1_enrage, Cond.selects RX1 yX1_enrage yX1_enrage, Cond.code yX1_enrage cX1_enrage 3 none, Cond.methodLink RX1 38 Lib.Math.min.name, Cond.static Lib.Math.min.name, Cond.code Lib.Math.min.name Lib.Math.min.code 2 (some .int), Cond.methodLink RX0 107 yX1_fiercestAwake]
def wsL_cornsWanted_r6 : List Cond := [Cond.instanceMethod yX1_fiercestAwake, Cond.selects RX1 yX1_fiercestAwake yX1_fiercestAwake, Cond.code yX1_fiercestAwake cX1_fiercestAwake 5 (some .int), Cond.methodLink RX0 110 yX1_hasGoose, Cond.instanceMethod yX1_hasGoose, Cond.selects RX1 yX1_hasGoose yX1_hasGoose, Cond.code yX1_hasGoose cX1_hasGoose 2 (some .boolean), Cond.methodLink RX0 113 yX0_payGoose, Cond.instanceMethod yX0_payGoose, Cond.selects RX0 yX0_payGoose yX0_payGoose, Cond.code yX0_payGoose cX0_payGoose 3 none, Cond.methodLink RX0 67 yX1_feed, Cond.instanceMethod yX1_feed, Cond.selects RX1 yX1_feed yX1_feed, Cond.code yX1_feed cX1_feed 2 none, Cond.methodLink RX1 32 Lib.Math.max.name, Cond.static yX3_gradeOfHiss, Cond.code yX3_gradeOfHiss cX3_gradeOfHiss 1 (some .int), Cond.methodLink RX0 120 yX2_fallBack, Cond.instanceMethod yX2_fallBack, Cond.selects RX2 yX2_fallBack yX2_fallBack, Cond.code yX2_fallBack cX2_fallBack 3 none, Cond.methodLink RX2 31 Lib.Math.min.name]
def wsL_cornsWanted : List Cond := .codeWith yL_cornsWanted cL_cornsWanted 4 (some .int) [(0, 9, 12, 21)] :: ((wsL_cornsWanted_r1 ++ (wsL_cornsWanted_r2 ++ (wsL_cornsWanted_r3 ++ (wsL_cornsWanted_r4 ++ (wsL_cornsWanted_r5 ++ wsL_cornsWanted_r6))))) ++ wsX30 ++ wsX00 ++ wsX20 ++ wsX10 ++ (vx_atS RX3 266 "java/lang/IndexOutOfBoundsException" ["java/lang/RuntimeException", "java/lang/Exception"]).filter goodWord)
def wsL_bestToBribe_r1 : List Cond := [Cond.classLink RL 21 "java/lang/IndexOutOfBoundsException", Cond.methodLink RL 97 yX3_bestToBribe, Cond.instanceMethod yX3_bestToBribe, Cond.selects RX3 yX3_bestToBribe yX3_bestToBribe, Cond.initialized RX3, Cond.code yX3_bestToBribe cX3_bestToBribe 2 (some .int), Cond.fieldLink RX3 10 "GooseCodex" "now" "LGooseCodex$Farm;", Cond.fieldLink RX3 57 "GooseCodex$Farm" "flock" "LGooseCodex$Flock;", Cond.fieldLink RX3 31 "GooseCodex$Farm" "guests" "LGooseCodex$Guests;", Cond.fieldLink RX3 103 "GooseCodex$Guests" "passed" "[I", Cond.methodLink RX3 85 yX3_demandVisitor, Cond.instanceMethod yX3_demandVisitor, Cond.selects RX3 yX3_demandVisitor yX3_demandVisitor, Cond.code yX3_demandVisitor cX3_demandVisitor 2 none, Cond.methodLink RX3 259 yX2_hasGuest, Cond.instanceMethod yX2_hasGuest, Cond.selects RX2 yX2_hasGuest yX2_hasGuest, Cond.initialized RX2, Cond.code yX2_hasGuest cX2_hasGuest 2 (some .boolean), Cond.fieldLink RX2 27 "GooseCodex$Guests" "count" "I", Cond.methodLink RX3 50 yX3_demandIndex, Cond.static yX3_demandIndex, Cond.code yX3_demandIndex cX3_demandIndex 1 none, Cond.classLink RX3 262 "java/lang/IndexOutOfBoundsException"]
def wsL_bestToBribe_r2 : List Cond := [Cond.initialized "java/lang/IndexOutOfBoundsException", Cond.methodLink RX3 163 yX1_fiercestAwake, Cond.instanceMethod yX1_fiercestAwake, Cond.selects RX1 yX1_fiercestAwake yX1_fiercestAwake, Cond.initialized RX1, Cond.code yX1_fiercestAwake cX1_fiercestAwake 5 (some .int), Cond.fieldLink RX1 24 "GooseCodex$Flock" "count" "I", Cond.fieldLink RX1 15 "GooseCodex$Flock" "temper" "[I", Cond.methodLink RX1 28 yX1_isAwakeThere, Cond.instanceMethod yX1_isAwakeThere, Cond.selects RX1 yX1_isAwakeThere yX1_isAwakeThere, Cond.code yX1_isAwakeThere cX1_isAwakeThere 3 (some .boolean), Cond.fieldLink RX1 9 "GooseCodex$Flock" "gate" "[I", Cond.fieldLink RX1 18 "GooseCodex$Flock" "calm" "[I"]
def wsL_bestToBribe : List Cond := .codeWith yL_bestToBribe cL_bestToBribe 4 (some .int) [(0, 9, 12, 21)] :: ((wsL_bestToBribe_r1 ++ wsL_bestToBribe_r2) ++ wsX30 ++ wsX00 ++ wsX20 ++ wsX10 ++ (vx_atS RX3 266 "java/lang/IndexOutOfBoundsException" ["java/lang/RuntimeException", "java/lang/Exception"]).filter goodWord)
def wsL_bribesWanted_r1 : List Cond := [Cond.classLink RL 21 "java/lang/IndexOutOfBoundsException", Cond.methodLink RL 100 yX3_bribesWanted, Cond.instanceMethod yX3_bribesWanted, Cond.selects RX3 yX3_bribesWanted yX3_bribesWanted, Cond.initialized RX3, Cond.code yX3_bribesWanted cX3_bribesWanted 2 (some .int), Cond.fieldLink RX3 10 "GooseCodex" "now" "LGooseCodex$Farm;", Cond.methodLink RX3 85 yX3_demandVisitor, Cond.instanceMethod yX3_demandVisitor, Cond.selects RX3 yX3_demandVisitor yX3_demandVisitor, Cond.code yX3_demandVisitor cX3_demandVisitor 2 none, Cond.fieldLink RX3 31 "GooseCodex$Farm" "guests" "LGooseCodex$Guests;", Cond.methodLink RX3 259 yX2_hasGuest, Cond.instanceMethod yX2_hasGuest, Cond.selects RX2 yX2_hasGuest yX2_hasGuest, Cond.initialized RX2, Cond.code yX2_hasGuest cX2_hasGuest 2 (some .boolean), Cond.fieldLink RX2 27 "GooseCodex$Guests" "count" "I", Cond.methodLink RX3 50 yX3_demandIndex, Cond.static yX3_demandIndex, Cond.code yX3_demandIndex cX3_demandIndex 1 none, Cond.classLink RX3 262 "java/lang/IndexOutOfBoundsException", Cond.initialized "java/lang/IndexOutOfBoundsException", Cond.methodLink RX3 166 yX0_fewestToCalm]
def wsL_bribesWanted_r2 : List Cond := [Cond.instanceMethod yX0_fewestToCalm, Cond.selects RX0 yX0_fewestToCalm yX0_fewestToCalm, Cond.initialized RX0, Cond.code yX0_fewestToCalm cX0_fewestToCalm 8 (some .int), Cond.fieldLink RX0 25 "GooseCodex$Farm" "guests" "LGooseCodex$Guests;", Cond.fieldLink RX0 49 "GooseCodex$Guests" "passed" "[I", Cond.fieldLink RX0 52 "GooseCodex$Guests" "rank" "[I", Cond.fieldLink RX0 18 "GooseCodex$Farm" "flock" "LGooseCodex$Flock;", Cond.fieldLink RX0 78 "GooseCodex$Flock" "count" "I", Cond.fieldLink RX0 79 "GooseCodex$Guests" "nerve" "[I", Cond.fieldLink RX0 82 "GooseCodex$Flock" "temper" "[I", Cond.methodLink RX0 43 yX0_rankLack, Cond.instanceMethod yX0_rankLack, Cond.selects RX0 yX0_rankLack yX0_rankLack, Cond.code yX0_rankLack cX0_rankLack 3 (some .int), Cond.fieldLink RX0 9 "GooseCodex$Farm" "ranks" "[I", Cond.methodLink RX0 37 Lib.Math.max.name, Cond.static Lib.Math.max.name, Cond.initialized "java/lang/Math", Cond.code Lib.Math.max.name Lib.Math.max.code 2 (some .int), Cond.methodLink RX0 33 yX0_hasGate, Cond.instanceMethod yX0_hasGate, Cond.selects RX0 yX0_hasGate yX0_hasGate, Cond.code yX0_hasGate cX0_hasGate 2 (some .boolean)]
def wsL_bribesWanted_r3 : List Cond := [Cond.fieldLink RX0 29 "GooseCodex$Farm" "gateCount" "I", Cond.methodLink RX0 74 yX0_guestHiss, Cond.instanceMethod yX0_guestHiss, Cond.selects RX0 yX0_guestHiss yX0_guestHiss, Cond.code yX0_guestHiss cX0_guestHiss 2 (some .int), Cond.methodLink RX0 55 yX0_gateHiss, Cond.instanceMethod yX0_gateHiss, Cond.selects RX0 yX0_gateHiss yX0_gateHiss, Cond.code yX0_gateHiss cX0_gateHiss 3 (some .int), Cond.methodLink RX0 46 yX1_hissThere, Cond.instanceMethod yX1_hissThere, Cond.selects RX1 yX1_hissThere yX1_hissThere, Cond.initialized RX1, Cond.code yX1_hissThere cX1_hissThere 5 (some .int), Cond.fieldLink RX1 24 "GooseCodex$Flock" "count" "I", Cond.fieldLink RX1 15 "GooseCodex$Flock" "temper" "[I", Cond.methodLink RX1 28 yX1_isAwakeThere, Cond.instanceMethod yX1_isAwakeThere, Cond.selects RX1 yX1_isAwakeThere yX1_isAwakeThere, Cond.code yX1_isAwakeThere cX1_isAwakeThere 3 (some .boolean), Cond.fieldLink RX1 9 "GooseCodex$Flock" "gate" "[I", Cond.fieldLink RX1 18 "GooseCodex$Flock" "calm" "[I", Cond.methodLink RX0 85 yX1_isAwakeThere]
def wsL_bribesWanted : List Cond := .codeWith yL_bribesWanted cL_bribesWanted 4 (some .int) [(0, 9, 12, 21)] :: ((wsL_bribesWanted_r1 ++ (wsL_bribesWanted_r2 ++ wsL_bribesWanted_r3)) ++ wsX30 ++ wsX00 ++ wsX20 ++ wsX10 ++ (vx_atS RX3 266 "java/lang/IndexOutOfBoundsException" ["java/lang/RuntimeException", "java/lang/Exception"]).filter goodWord)
def wsL_rankWanted_r1 : List Cond := [Cond.classLink RL 21 "java/lang/IndexOutOfBoundsException", Cond.methodLink RL 103 yX3_rankWanted, Cond.instanceMethod yX3_rankWanted, Cond.selects RX3 yX3_rankWanted yX3_rankWanted, Cond.initialized RX3, Cond.code yX3_rankWanted cX3_rankWanted 4 (some .int), Cond.fieldLink RX3 10 "GooseCodex" "now" "LGooseCodex$Farm;", Cond.fieldLink RX3 31 "GooseCodex$Farm" "guests" "LGooseCodex$Guests;", Cond.fieldLink RX3 103 "GooseCodex$Guests" "passed" "[I", Cond.fieldLink RX3 144 "GooseCodex$Guests" "nerve" "[I", Cond.methodLink RX3 85 yX3_demandVisitor, Cond.instanceMethod yX3_demandVisitor, Cond.selects RX3 yX3_demandVisitor yX3_demandVisitor, Cond.code yX3_demandVisitor cX3_demandVisitor 2 none, Cond.methodLink RX3 259 yX2_hasGuest, Cond.instanceMethod yX2_hasGuest, Cond.selects RX2 yX2_hasGuest yX2_hasGuest, Cond.initialized RX2, Cond.code yX2_hasGuest cX2_hasGuest 2 (some .boolean), Cond.fieldLink RX2 27 "GooseCodex$Guests" "count" "I", Cond.methodLink RX3 50 yX3_demandIndex, Cond.static yX3_demandIndex, Cond.code yX3_demandIndex cX3_demandIndex 1 none, Cond.classLink RX3 262 "java/lang/IndexOutOfBoundsException"]
def wsL_rankWanted_r2 : List Cond := [Cond.initialized "java/lang/IndexOutOfBoundsException", Cond.methodLink RX3 135 yX0_gateHiss, Cond.instanceMethod yX0_gateHiss, Cond.selects RX0 yX0_gateHiss yX0_gateHiss, Cond.initialized RX0, Cond.code yX0_gateHiss cX0_gateHiss 3 (some .int), Cond.fieldLink RX0 18 "GooseCodex$Farm" "flock" "LGooseCodex$Flock;", Cond.methodLink RX0 43 yX0_rankLack, Cond.instanceMethod yX0_rankLack, Cond.selects RX0 yX0_rankLack yX0_rankLack, Cond.code yX0_rankLack cX0_rankLack 3 (some .int), Cond.fieldLink RX0 9 "GooseCodex$Farm" "ranks" "[I", Cond.methodLink RX0 37 Lib.Math.max.name, Cond.static Lib.Math.max.name, Cond.initialized "java/lang/Math", Cond.code Lib.Math.max.name Lib.Math.max.code 2 (some .int), Cond.methodLink RX0 33 yX0_hasGate, Cond.instanceMethod yX0_hasGate, Cond.selects RX0 yX0_hasGate yX0_hasGate, Cond.code yX0_hasGate cX0_hasGate 2 (some .boolean), Cond.fieldLink RX0 29 "GooseCodex$Farm" "gateCount" "I", Cond.methodLink RX0 46 yX1_hissThere, Cond.instanceMethod yX1_hissThere, Cond.selects RX1 yX1_hissThere yX1_hissThere]
def wsL_rankWanted_r3 : List Cond := [Cond.initialized RX1, Cond.code yX1_hissThere cX1_hissThere 5 (some .int), Cond.fieldLink RX1 24 "GooseCodex$Flock" "count" "I", Cond.fieldLink RX1 15 "GooseCodex$Flock" "temper" "[I", Cond.methodLink RX1 28 yX1_isAwakeThere, Cond.instanceMethod yX1_isAwakeThere, Cond.selects RX1 yX1_isAwakeThere yX1_isAwakeThere, Cond.code yX1_isAwakeThere cX1_isAwakeThere 3 (some .boolean), Cond.fieldLink RX1 9 "GooseCodex$Flock" "gate" "[I", Cond.fieldLink RX1 18 "GooseCodex$Flock" "calm" "[I"]
def wsL_rankWanted : List Cond := .codeWith yL_rankWanted cL_rankWanted 4 (some .int) [(0, 9, 12, 21)] :: ((wsL_rankWanted_r1 ++ (wsL_rankWanted_r2 ++ wsL_rankWanted_r3)) ++ wsX30 ++ wsX00 ++ wsX20 ++ wsX10 ++ (vx_atS RX3 266 "java/lang/IndexOutOfBoundsException" ["java/lang/RuntimeException", "java/lang/Exception"]).filter goodWord)
def wsL_firstBar_r1 : List Cond := [Cond.classLink RL 13 "java/lang/IllegalArgumentException", Cond.methodLink RL 106 yX3_firstBar, Cond.instanceMethod yX3_firstBar, Cond.selects RX3 yX3_firstBar yX3_firstBar, Cond.initialized RX3, Cond.code yX3_firstBar cX3_firstBar 4 (some .int), Cond.fieldLink RX3 10 "GooseCodex" "now" "LGooseCodex$Farm;", Cond.fieldLink RX3 27 "GooseCodex$Farm" "gateCount" "I", Cond.methodLink RX3 19 yX3_isRank, Cond.static yX3_isRank, Cond.code yX3_isRank cX3_isRank 1 (some .boolean), Cond.methodLink RX3 53 yX3_isWithin, Cond.static yX3_isWithin, Cond.code yX3_isWithin cX3_isWithin 3 (some .boolean), Cond.methodLink RX3 68 yX3_isNerve, Cond.static yX3_isNerve, Cond.code yX3_isNerve cX3_isNerve 1 (some .boolean), Cond.methodLink RX3 23 yX3_demandArgument, Cond.static yX3_demandArgument, Cond.code yX3_demandArgument cX3_demandArgument 1 none, Cond.classLink RX3 269 "java/lang/IllegalArgumentException", Cond.initialized "java/lang/IllegalArgumentException", Cond.methodLink RX3 135 yX0_gateHiss, Cond.instanceMethod yX0_gateHiss]
def wsL_firstBar_r2 : List Cond := [Cond.selects RX0 yX0_gateHiss yX0_gateHiss, Cond.initialized RX0, Cond.code yX0_gateHiss cX0_gateHiss 3 (some .int), Cond.fieldLink RX0 18 "GooseCodex$Farm" "flock" "LGooseCodex$Flock;", Cond.methodLink RX0 43 yX0_rankLack, Cond.instanceMethod yX0_rankLack, Cond.selects RX0 yX0_rankLack yX0_rankLack, Cond.code yX0_rankLack cX0_rankLack 3 (some .int), Cond.fieldLink RX0 9 "GooseCodex$Farm" "ranks" "[I", Cond.methodLink RX0 37 Lib.Math.max.name, Cond.static Lib.Math.max.name, Cond.initialized "java/lang/Math", Cond.code Lib.Math.max.name Lib.Math.max.code 2 (some .int), Cond.methodLink RX0 33 yX0_hasGate, Cond.instanceMethod yX0_hasGate, Cond.selects RX0 yX0_hasGate yX0_hasGate, Cond.code yX0_hasGate cX0_hasGate 2 (some .boolean), Cond.fieldLink RX0 29 "GooseCodex$Farm" "gateCount" "I", Cond.methodLink RX0 46 yX1_hissThere, Cond.instanceMethod yX1_hissThere, Cond.selects RX1 yX1_hissThere yX1_hissThere, Cond.initialized RX1, Cond.code yX1_hissThere cX1_hissThere 5 (some .int), Cond.fieldLink RX1 24 "GooseCodex$Flock" "count" "I"]
def wsL_firstBar_r3 : List Cond := [Cond.fieldLink RX1 15 "GooseCodex$Flock" "temper" "[I", Cond.methodLink RX1 28 yX1_isAwakeThere, Cond.instanceMethod yX1_isAwakeThere, Cond.selects RX1 yX1_isAwakeThere yX1_isAwakeThere, Cond.code yX1_isAwakeThere cX1_isAwakeThere 3 (some .boolean), Cond.fieldLink RX1 9 "GooseCodex$Flock" "gate" "[I", Cond.fieldLink RX1 18 "GooseCodex$Flock" "calm" "[I"]
def wsL_firstBar : List Cond := .codeWith yL_firstBar cL_firstBar 5 (some .int) [(0, 10, 13, 13)] :: ((wsL_firstBar_r1 ++ (wsL_firstBar_r2 ++ wsL_firstBar_r3)) ++ wsX30 ++ wsX00 ++ wsX10 ++ (vx_atS RX3 273 "java/lang/IllegalArgumentException" ["java/lang/RuntimeException", "java/lang/Exception"]).filter goodWord)
def wsL_law0_r1 : List Cond := [Cond.classLink RL 8 RX3, Cond.instantiable RX3 2, Cond.initialized RX3, Cond.classLink RL 110 RX4, Cond.instantiable RX4 9, Cond.initialized RX4, Cond.arrayClass .long, Cond.methodLink RL 109 yX3_init, Cond.instanceMethod yX3_init, Cond.code yX3_init cX3_init 1 none, Cond.methodLink RX3 1 objectInit, Cond.instanceMethod objectInit, Cond.code objectInit ⟨#[0xb1]⟩ 1 none, Cond.classLink RX3 7 RX0, Cond.instantiable RX0 7, Cond.initialized RX0, Cond.fieldLink RX3 10 "GooseCodex" "now" "LGooseCodex$Farm;", Cond.fieldLink RX3 16 "GooseCodex" "trial" "LGooseCodex$Farm;", Cond.instanceMethod yX0_init, Cond.code yX0_init cX0_init 1 none, Cond.methodLink RX0 3 objectInit, Cond.arrayClass .int, Cond.fieldLink RX0 9 "GooseCodex$Farm" "ranks" "[I", Cond.classLink RX0 15 RX1]
def wsL_law0_r2 : List Cond := [Cond.instantiable RX1 5, Cond.initialized RX1, Cond.fieldLink RX0 18 "GooseCodex$Farm" "flock" "LGooseCodex$Flock;", Cond.classLink RX0 22 RX2, Cond.instantiable RX2 6, Cond.initialized RX2, Cond.fieldLink RX0 25 "GooseCodex$Farm" "guests" "LGooseCodex$Guests;", Cond.instanceMethod yX1_init, Cond.code yX1_init cX1_init 1 none, Cond.methodLink RX1 3 objectInit, Cond.fieldLink RX1 9 "GooseCodex$Flock" "gate" "[I", Cond.fieldLink RX1 15 "GooseCodex$Flock" "temper" "[I", Cond.fieldLink RX1 18 "GooseCodex$Flock" "calm" "[I", Cond.fieldLink RX1 21 "GooseCodex$Flock" "eaten" "[I", Cond.instanceMethod yX2_init, Cond.code yX2_init cX2_init 1 none, Cond.methodLink RX2 3 objectInit, Cond.fieldLink RX2 9 "GooseCodex$Guests" "rank" "[I", Cond.fieldLink RX2 15 "GooseCodex$Guests" "nerve" "[I", Cond.fieldLink RX2 18 "GooseCodex$Guests" "corns" "[I", Cond.fieldLink RX2 21 "GooseCodex$Guests" "passed" "[I", Cond.fieldLink RX2 24 "GooseCodex$Guests" "retreat" "[I", Cond.methodLink RL 112 yX4_init, Cond.instanceMethod yX4_init]
def wsL_law0_r3 : List Cond := [Cond.code yX4_init cX4_init 1 none, Cond.methodLink RX4 1 objectInit, Cond.fieldLink RX4 9 "GooseCodexModel" "rank" "[I", Cond.fieldLink RX4 13 "GooseCodexModel" "keeps" "[I", Cond.fieldLink RX4 16 "GooseCodexModel" "own" "[I", Cond.fieldLink RX4 19 "GooseCodexModel" "now" "[I", Cond.fieldLink RX4 22 "GooseCodexModel" "kept" "[I", Cond.methodLink RL 113 yL_addGate, Cond.static yL_addGate, Cond.initialized RL, Cond.codeWith yL_addGate cL_addGate 4 (some .int) [(0, 9, 12, 13), (0, 9, 15, 15)], Cond.classLink RL 13 "java/lang/IllegalArgumentException", Cond.classLink RL 15 "java/lang/IllegalStateException", Cond.methodLink RL 7 yX3_addGate, Cond.instanceMethod yX3_addGate, Cond.selects RX3 yX3_addGate yX3_addGate, Cond.code yX3_addGate cX3_addGate 2 (some .int), Cond.fieldLink RX3 27 "GooseCodex$Farm" "gateCount" "I", Cond.fieldLink RX3 31 "GooseCodex$Farm" "guests" "LGooseCodex$Guests;", Cond.fieldLink RX3 35 "GooseCodex$Guests" "count" "I", Cond.methodLink RX3 19 yX3_isRank, Cond.static yX3_isRank, Cond.code yX3_isRank cX3_isRank 1 (some .boolean), Cond.methodLink RX3 53 yX3_isWithin]
def wsL_law0_r4 : List Cond := [Cond.static yX3_isWithin, Cond.code yX3_isWithin cX3_isWithin 3 (some .boolean), Cond.methodLink RX3 23 yX3_demandArgument, Cond.static yX3_demandArgument, Cond.code yX3_demandArgument cX3_demandArgument 1 none, Cond.classLink RX3 269 "java/lang/IllegalArgumentException", Cond.initialized "java/lang/IllegalArgumentException", Cond.methodLink RX3 40 yX3_demandState, Cond.static yX3_demandState, Cond.code yX3_demandState cX3_demandState 1 none, Cond.classLink RX3 274 "java/lang/IllegalStateException", Cond.initialized "java/lang/IllegalStateException", Cond.methodLink RX3 43 yX0_putGate, Cond.instanceMethod yX0_putGate, Cond.selects RX0 yX0_putGate yX0_putGate, Cond.code yX0_putGate cX0_putGate 3 (some .int), Cond.fieldLink RX0 29 "GooseCodex$Farm" "gateCount" "I", Cond.methodLink RL 118 yX4_addGate, Cond.instanceMethod yX4_addGate, Cond.selects RX4 yX4_addGate yX4_addGate, Cond.code yX4_addGate cX4_addGate 2 (some .int), Cond.fieldLink RX4 25 "GooseCodexModel" "thrown" "I", Cond.fieldLink RX4 29 "GooseCodexModel" "gates" "I", Cond.fieldLink RX4 39 "GooseCodexModel" "visitors" "I"]
def wsL_law0_r5 : List Cond := [Cond.methodLink RX4 32 yX4_isIn, Cond.static yX4_isIn, Cond.code yX4_isIn cX4_isIn 3 (some .boolean), Cond.methodLink RX4 101 yX4_fail, Cond.instanceMethod yX4_fail, Cond.selects RX4 yX4_fail yX4_fail, Cond.code yX4_fail cX4_fail 2 (some .int), Cond.methodLink RL 119 yX4_thrown, Cond.instanceMethod yX4_thrown, Cond.selects RX4 yX4_thrown yX4_thrown, Cond.code yX4_thrown cX4_thrown 1 (some .int), Cond.methodLink RL 123 yL_addGoose, Cond.static yL_addGoose, Cond.codeWith yL_addGoose cL_addGoose 5 (some .int) [(0, 10, 13, 21), (0, 10, 17, 13), (0, 10, 21, 15)], Cond.classLink RL 21 "java/lang/IndexOutOfBoundsException", Cond.methodLink RL 17 yX3_addGoose, Cond.instanceMethod yX3_addGoose, Cond.selects RX3 yX3_addGoose yX3_addGoose, Cond.code yX3_addGoose cX3_addGoose 3 (some .int), Cond.fieldLink RX3 57 "GooseCodex$Farm" "flock" "LGooseCodex$Flock;", Cond.fieldLink RX3 61 "GooseCodex$Flock" "count" "I", Cond.methodLink RX3 47 yX0_hasGate, Cond.instanceMethod yX0_hasGate, Cond.selects RX0 yX0_hasGate yX0_hasGate]
def wsL_law0_r6 : List Cond := [Cond.code yX0_hasGate cX0_hasGate 2 (some .boolean), Cond.methodLink RX3 50 yX3_demandIndex, Cond.static yX3_demandIndex, Cond.code yX3_demandIndex cX3_demandIndex 1 none, Cond.classLink RX3 262 "java/lang/IndexOutOfBoundsException", Cond.initialized "java/lang/IndexOutOfBoundsException", Cond.methodLink RX3 64 yX1_putGoose, Cond.instanceMethod yX1_putGoose, Cond.selects RX1 yX1_putGoose yX1_putGoose, Cond.code yX1_putGoose cX1_putGoose 4 (some .int), Cond.fieldLink RX1 24 "GooseCodex$Flock" "count" "I", Cond.methodLink RL 126 yX4_addGoose, Cond.instanceMethod yX4_addGoose, Cond.selects RX4 yX4_addGoose yX4_addGoose, Cond.code yX4_addGoose cX4_addGoose 3 (some .int), Cond.fieldLink RX4 36 "GooseCodexModel" "geese" "I", Cond.methodLink RX4 104 yX4_isGate, Cond.instanceMethod yX4_isGate, Cond.selects RX4 yX4_isGate yX4_isGate, Cond.code yX4_isGate cX4_isGate 2 (some .boolean), Cond.methodLink RX4 77 yX4_put, Cond.instanceMethod yX4_put, Cond.selects RX4 yX4_put yX4_put, Cond.code yX4_put cX4_put 4 none]
def wsL_law0_r7 : List Cond := [Cond.methodLink RL 127 yL_arrive, Cond.static yL_arrive, Cond.codeWith yL_arrive cL_arrive 6 (some .int) [(0, 12, 15, 13), (0, 12, 19, 15)], Cond.methodLink RL 23 yX3_arrive, Cond.instanceMethod yX3_arrive, Cond.selects RX3 yX3_arrive yX3_arrive, Cond.code yX3_arrive cX3_arrive 4 (some .int), Cond.methodLink RX3 68 yX3_isNerve, Cond.static yX3_isNerve, Cond.code yX3_isNerve cX3_isNerve 1 (some .boolean), Cond.methodLink RX3 71 yX2_putGuest, Cond.instanceMethod yX2_putGuest, Cond.selects RX2 yX2_putGuest yX2_putGuest, Cond.code yX2_putGuest cX2_putGuest 5 (some .int), Cond.fieldLink RX2 27 "GooseCodex$Guests" "count" "I", Cond.methodLink RL 130 yX4_arrive, Cond.instanceMethod yX4_arrive, Cond.selects RX4 yX4_arrive yX4_arrive, Cond.code yX4_arrive cX4_arrive 4 (some .int), Cond.methodLink RX4 73 yX4_let, Cond.instanceMethod yX4_let, Cond.selects RX4 yX4_let yX4_let, Cond.code yX4_let cX4_let 4 none, Cond.methodLink RL 131 yL_setRank]
def wsL_law0_r8 : List Cond := [Cond.static yL_setRank, Cond.codeWith yL_setRank cL_setRank 5 (some .int) [(0, 10, 13, 21), (0, 10, 17, 13)], Cond.methodLink RL 27 yX3_setRank, Cond.instanceMethod yX3_setRank, Cond.selects RX3 yX3_setRank yX3_setRank, Cond.code yX3_setRank cX3_setRank 4 (some .int), Cond.fieldLink RX3 75 "GooseCodex$Farm" "ranks" "[I", Cond.methodLink RL 133 yX4_setRank, Cond.instanceMethod yX4_setRank, Cond.selects RX4 yX4_setRank yX4_setRank, Cond.code yX4_setRank cX4_setRank 4 (some .int), Cond.methodLink RL 134 yL_lead, Cond.static yL_lead, Cond.codeWith yL_lead cL_lead 5 (some .int) [(0, 10, 13, 21)], Cond.methodLink RL 30 yX3_lead, Cond.instanceMethod yX3_lead, Cond.selects RX3 yX3_lead yX3_lead, Cond.code yX3_lead cX3_lead 4 (some .int), Cond.fieldLink RX3 82 "GooseCodex$Flock" "gate" "[I", Cond.methodLink RX3 79 yX1_hasGoose, Cond.instanceMethod yX1_hasGoose, Cond.selects RX1 yX1_hasGoose yX1_hasGoose, Cond.code yX1_hasGoose cX1_hasGoose 2 (some .boolean), Cond.methodLink RL 136 yX4_lead]
def wsL_law0_r9 : List Cond := [Cond.instanceMethod yX4_lead, Cond.selects RX4 yX4_lead yX4_lead, Cond.code yX4_lead cX4_lead 4 (some .int), Cond.methodLink RX4 107 yX4_isGoose, Cond.instanceMethod yX4_isGoose, Cond.selects RX4 yX4_isGoose yX4_isGoose, Cond.code yX4_isGoose cX4_isGoose 2 (some .boolean), Cond.methodLink RL 137 yL_giveCorns, Cond.static yL_giveCorns, Cond.codeWith yL_giveCorns cL_giveCorns 5 (some .int) [(0, 10, 13, 21), (0, 10, 17, 13)], Cond.methodLink RL 33 yX3_giveCorns, Cond.instanceMethod yX3_giveCorns, Cond.selects RX3 yX3_giveCorns yX3_giveCorns, Cond.code yX3_giveCorns cX3_giveCorns 4 (some .int), Cond.fieldLink RX3 89 "GooseCodex$Guests" "corns" "[I", Cond.methodLink RX3 92 Lib.Math.min.name, Cond.static Lib.Math.min.name, Cond.initialized "java/lang/Math", Cond.code Lib.Math.min.name Lib.Math.min.code 2 (some .int), Cond.methodLink RX3 85 yX3_demandVisitor, Cond.instanceMethod yX3_demandVisitor, Cond.selects RX3 yX3_demandVisitor yX3_demandVisitor, Cond.code yX3_demandVisitor cX3_demandVisitor 2 none, Cond.methodLink RX3 259 yX2_hasGuest]
def wsL_law0_r10 : List Cond := [Cond.instanceMethod yX2_hasGuest, Cond.selects RX2 yX2_hasGuest yX2_hasGuest, Cond.code yX2_hasGuest cX2_hasGuest 2 (some .boolean), Cond.methodLink RL 139 yX4_giveCorns, Cond.instanceMethod yX4_giveCorns, Cond.selects RX4 yX4_giveCorns yX4_giveCorns, Cond.code yX4_giveCorns cX4_giveCorns 3 (some .int), Cond.methodLink RX4 80 Lib.Math.min.name, Cond.methodLink RX4 110 yX4_isVisitor, Cond.instanceMethod yX4_isVisitor, Cond.selects RX4 yX4_isVisitor yX4_isVisitor, Cond.code yX4_isVisitor cX4_isVisitor 2 (some .boolean), Cond.methodLink RX4 64 yX4_vi, Cond.instanceMethod yX4_vi, Cond.selects RX4 yX4_vi yX4_vi, Cond.code yX4_vi cX4_vi 3 (some .int), Cond.methodLink RL 140 yL_bribe, Cond.static yL_bribe, Cond.codeWith yL_bribe cL_bribe 5 (some .int) [(0, 10, 13, 21), (0, 10, 17, 15)], Cond.methodLink RL 36 yX3_bribe, Cond.instanceMethod yX3_bribe, Cond.selects RX3 yX3_bribe yX3_bribe, Cond.code yX3_bribe cX3_bribe 3 (some .int), Cond.fieldLink RX3 103 "GooseCodex$Guests" "passed" "[I"]
def wsL_law0_r11 : List Cond := [Cond.fieldLink RX3 110 "GooseCodex$Flock" "temper" "[I", Cond.methodLink RX3 97 yX3_demandGoose, Cond.instanceMethod yX3_demandGoose, Cond.selects RX3 yX3_demandGoose yX3_demandGoose, Cond.code yX3_demandGoose cX3_demandGoose 2 none, Cond.methodLink RX3 100 yX0_isBehindAll, Cond.instanceMethod yX0_isBehindAll, Cond.selects RX0 yX0_isBehindAll yX0_isBehindAll, Cond.code yX0_isBehindAll cX0_isBehindAll 2 (some .boolean), Cond.fieldLink RX0 49 "GooseCodex$Guests" "passed" "[I", Cond.methodLink RX3 106 yX0_payGoose, Cond.instanceMethod yX0_payGoose, Cond.selects RX0 yX0_payGoose yX0_payGoose, Cond.code yX0_payGoose cX0_payGoose 3 none, Cond.fieldLink RX0 64 "GooseCodex$Guests" "corns" "[I", Cond.fieldLink RX0 71 "GooseCodex$Farm" "bribeCount" "I", Cond.methodLink RX0 67 yX1_feed, Cond.instanceMethod yX1_feed, Cond.selects RX1 yX1_feed yX1_feed, Cond.code yX1_feed cX1_feed 2 none, Cond.methodLink RX1 32 Lib.Math.max.name, Cond.static Lib.Math.max.name, Cond.code Lib.Math.max.name Lib.Math.max.code 2 (some .int), Cond.methodLink RL 142 yX4_bribe]
def wsL_law0_r12 : List Cond := [Cond.instanceMethod yX4_bribe, Cond.selects RX4 yX4_bribe yX4_bribe, Cond.code yX4_bribe cX4_bribe 3 (some .int), Cond.methodLink RX4 67 yX4_isIn_, Cond.instanceMethod yX4_isIn_, Cond.selects RX4 yX4_isIn_ yX4_isIn_, Cond.code yX4_isIn_ cX4_isIn_ 2 (some .boolean), Cond.methodLink RX4 87 yX4_feed, Cond.instanceMethod yX4_feed, Cond.selects RX4 yX4_feed yX4_feed, Cond.code yX4_feed cX4_feed 3 none, Cond.methodLink RX4 52 Lib.Math.max.name, Cond.methodLink RX4 48 yX4_go, Cond.instanceMethod yX4_go, Cond.selects RX4 yX4_go yX4_go, Cond.code yX4_go cX4_go 3 (some .int), Cond.methodLink RL 143 yL_passBeats, Cond.static yL_passBeats, Cond.codeWith yL_passBeats cL_passBeats 4 (some .int) [(0, 9, 12, 13)], Cond.methodLink RL 39 yX3_passBeats, Cond.instanceMethod yX3_passBeats, Cond.selects RX3 yX3_passBeats yX3_passBeats, Cond.code yX3_passBeats cX3_passBeats 3 (some .int), Cond.methodLink RX3 113 yX3_isBeats]
def wsL_law0_r13 : List Cond := [Cond.static yX3_isBeats, Cond.code yX3_isBeats cX3_isBeats 1 (some .boolean), Cond.methodLink RX3 116 yX0_countInside, Cond.instanceMethod yX0_countInside, Cond.selects RX0 yX0_countInside yX0_countInside, Cond.code yX0_countInside cX0_countInside 3 (some .int), Cond.fieldLink RX0 58 "GooseCodex$Guests" "count" "I", Cond.methodLink RX0 61 yX0_isBehindAll, Cond.methodLink RX3 120 yX0_runBeats, Cond.instanceMethod yX0_runBeats, Cond.selects RX0 yX0_runBeats yX0_runBeats, Cond.code yX0_runBeats cX0_runBeats 3 none, Cond.methodLink RX0 89 yX0_runBeat, Cond.instanceMethod yX0_runBeat, Cond.selects RX0 yX0_runBeat yX0_runBeat, Cond.code yX0_runBeat cX0_runBeat 2 none, Cond.fieldLink RX0 98 "GooseCodex$Farm" "beat" "I", Cond.methodLink RX0 92 yX1_wakeByABeat, Cond.instanceMethod yX1_wakeByABeat, Cond.selects RX1 yX1_wakeByABeat yX1_wakeByABeat, Cond.code yX1_wakeByABeat cX1_wakeByABeat 2 none, Cond.methodLink RX0 95 yX0_moveGuest, Cond.instanceMethod yX0_moveGuest, Cond.selects RX0 yX0_moveGuest yX0_moveGuest]
def wsL_law0_r14 : List Cond := [Cond.code yX0_moveGuest cX0_moveGuest 5 none, Cond.fieldLink RX0 101 "GooseCodex$Guests" "retreat" "[I", Cond.fieldLink RX0 52 "GooseCodex$Guests" "rank" "[I", Cond.fieldLink RX0 79 "GooseCodex$Guests" "nerve" "[I", Cond.fieldLink RX0 123 "GooseCodex$Farm" "retreatCount" "I", Cond.methodLink RX0 55 yX0_gateHiss, Cond.instanceMethod yX0_gateHiss, Cond.selects RX0 yX0_gateHiss yX0_gateHiss, Cond.code yX0_gateHiss cX0_gateHiss 3 (some .int), Cond.methodLink RX0 43 yX0_rankLack, Cond.instanceMethod yX0_rankLack, Cond.selects RX0 yX0_rankLack yX0_rankLack, Cond.code yX0_rankLack cX0_rankLack 3 (some .int), Cond.methodLink RX0 37 Lib.Math.max.name, Cond.methodLink RX0 33 yX0_hasGate, Cond.methodLink RX0 46 yX1_hissThere, Cond.instanceMethod yX1_hissThere, Cond.selects RX1 yX1_hissThere yX1_hissThere, Cond.code yX1_hissThere cX1_hissThere 5 (some .int), Cond.methodLink RX1 28 yX1_isAwakeThere, Cond.instanceMethod yX1_isAwakeThere, Cond.selects RX1 yX1_isAwakeThere yX1_isAwakeThere, Cond.code yX1_isAwakeThere cX1_isAwakeThere 3 (some .boolean), Cond.methodLink RX0 104 yX1_enrage]
def wsL_law0_r15 : List Cond := [Cond.instanceMethod yX1_enrage, Cond.selects RX1 yX1_enrage yX1_enrage, Cond.code yX1_enrage cX1_enrage 3 none, Cond.methodLink RX1 38 Lib.Math.min.name, Cond.methodLink RX0 107 yX1_fiercestAwake, Cond.instanceMethod yX1_fiercestAwake, Cond.selects RX1 yX1_fiercestAwake yX1_fiercestAwake, Cond.code yX1_fiercestAwake cX1_fiercestAwake 5 (some .int), Cond.methodLink RX0 110 yX1_hasGoose, Cond.methodLink RX0 113 yX0_payGoose, Cond.static yX3_gradeOfHiss, Cond.code yX3_gradeOfHiss cX3_gradeOfHiss 1 (some .int), Cond.methodLink RX0 120 yX2_fallBack, Cond.instanceMethod yX2_fallBack, Cond.selects RX2 yX2_fallBack yX2_fallBack, Cond.code yX2_fallBack cX2_fallBack 3 none, Cond.methodLink RX2 31 Lib.Math.min.name, Cond.methodLink RL 145 yX4_passBeats, Cond.instanceMethod yX4_passBeats, Cond.selects RX4 yX4_passBeats yX4_passBeats, Cond.code yX4_passBeats cX4_passBeats 3 (some .int), Cond.methodLink RX4 113 yX4_inside, Cond.instanceMethod yX4_inside, Cond.selects RX4 yX4_inside yX4_inside]
def wsL_law0_r16 : List Cond := [Cond.code yX4_inside cX4_inside 3 (some .int), Cond.methodLink RX4 117 yX4_beatsOn, Cond.instanceMethod yX4_beatsOn, Cond.selects RX4 yX4_beatsOn yX4_beatsOn, Cond.code yX4_beatsOn cX4_beatsOn 3 none, Cond.methodLink RX4 98 yX4_beatOn, Cond.instanceMethod yX4_beatOn, Cond.selects RX4 yX4_beatOn yX4_beatOn, Cond.code yX4_beatOn cX4_beatOn 2 none, Cond.methodLink RX4 94 yX4_move, Cond.instanceMethod yX4_move, Cond.selects RX4 yX4_move yX4_move, Cond.code yX4_move cX4_move 5 none, Cond.methodLink RX4 70 yX4_hiss, Cond.instanceMethod yX4_hiss, Cond.selects RX4 yX4_hiss yX4_hiss, Cond.code yX4_hiss cX4_hiss 5 (some .int), Cond.methodLink RX4 57 yX4_isAwake, Cond.instanceMethod yX4_isAwake, Cond.selects RX4 yX4_isAwake yX4_isAwake, Cond.code yX4_isAwake cX4_isAwake 3 (some .boolean), Cond.methodLink RX4 61 yX4_more, Cond.instanceMethod yX4_more, Cond.selects RX4 yX4_more yX4_more]
def wsL_law0_r17 : List Cond := [Cond.code yX4_more cX4_more 3 (some .int), Cond.methodLink RX4 83 yX4_angriest, Cond.instanceMethod yX4_angriest, Cond.selects RX4 yX4_angriest yX4_angriest, Cond.code yX4_angriest cX4_angriest 4 (some .int), Cond.methodLink RX4 91 yX4_grade, Cond.static yX4_grade, Cond.code yX4_grade cX4_grade 1 (some .int), Cond.methodLink RL 146 yX3_beats, Cond.instanceMethod yX3_beats, Cond.selects RX3 yX3_beats yX3_beats, Cond.code yX3_beats cX3_beats 1 (some .int), Cond.fieldLink RX3 123 "GooseCodex$Farm" "beat" "I", Cond.methodLink RL 149 yX4_beats, Cond.instanceMethod yX4_beats, Cond.selects RX4 yX4_beats yX4_beats, Cond.code yX4_beats cX4_beats 1 (some .int), Cond.methodLink RX4 120 yX4_told, Cond.instanceMethod yX4_told, Cond.selects RX4 yX4_told yX4_told, Cond.code yX4_told cX4_told 2 (some .int), Cond.methodLink RL 150 yX3_gates, Cond.instanceMethod yX3_gates, Cond.selects RX3 yX3_gates yX3_gates]
def wsL_law0_r18 : List Cond := [Cond.code yX3_gates cX3_gates 1 (some .int), Cond.methodLink RL 153 yX4_gates, Cond.instanceMethod yX4_gates, Cond.selects RX4 yX4_gates yX4_gates, Cond.code yX4_gates cX4_gates 1 (some .int), Cond.methodLink RL 154 yX3_geese, Cond.instanceMethod yX3_geese, Cond.selects RX3 yX3_geese yX3_geese, Cond.code yX3_geese cX3_geese 1 (some .int), Cond.methodLink RL 157 yX4_geese, Cond.instanceMethod yX4_geese, Cond.selects RX4 yX4_geese yX4_geese, Cond.code yX4_geese cX4_geese 1 (some .int), Cond.methodLink RL 158 yX3_visitors, Cond.instanceMethod yX3_visitors, Cond.selects RX3 yX3_visitors yX3_visitors, Cond.code yX3_visitors cX3_visitors 1 (some .int), Cond.methodLink RL 161 yX4_visitors, Cond.instanceMethod yX4_visitors, Cond.selects RX4 yX4_visitors yX4_visitors, Cond.code yX4_visitors cX4_visitors 1 (some .int), Cond.methodLink RL 162 yX3_inFarm, Cond.instanceMethod yX3_inFarm, Cond.selects RX3 yX3_inFarm yX3_inFarm]
def wsL_law0_r19 : List Cond := [Cond.code yX3_inFarm cX3_inFarm 1 (some .int), Cond.methodLink RL 165 yX4_inFarm, Cond.instanceMethod yX4_inFarm, Cond.selects RX4 yX4_inFarm yX4_inFarm, Cond.code yX4_inFarm cX4_inFarm 1 (some .int), Cond.methodLink RL 166 yX3_bribes, Cond.instanceMethod yX3_bribes, Cond.selects RX3 yX3_bribes yX3_bribes, Cond.code yX3_bribes cX3_bribes 1 (some .int), Cond.fieldLink RX3 126 "GooseCodex$Farm" "bribeCount" "I", Cond.methodLink RL 169 yX4_bribes, Cond.instanceMethod yX4_bribes, Cond.selects RX4 yX4_bribes yX4_bribes, Cond.code yX4_bribes cX4_bribes 1 (some .int), Cond.methodLink RL 170 yX3_retreats, Cond.instanceMethod yX3_retreats, Cond.selects RX3 yX3_retreats yX3_retreats, Cond.code yX3_retreats cX3_retreats 1 (some .int), Cond.fieldLink RX3 129 "GooseCodex$Farm" "retreatCount" "I", Cond.methodLink RL 173 yX4_retreats, Cond.instanceMethod yX4_retreats, Cond.selects RX4 yX4_retreats yX4_retreats, Cond.code yX4_retreats cX4_retreats 1 (some .int), Cond.methodLink RL 174 yL_rankOf]
def wsL_law0_r20 : List Cond := [Cond.static yL_rankOf, Cond.codeWith yL_rankOf cL_rankOf 4 (some .int) [(0, 9, 12, 21)], Cond.methodLink RL 42 yX3_rankOf, Cond.instanceMethod yX3_rankOf, Cond.selects RX3 yX3_rankOf yX3_rankOf, Cond.code yX3_rankOf cX3_rankOf 2 (some .int), Cond.methodLink RL 176 yX4_rankOf, Cond.instanceMethod yX4_rankOf, Cond.selects RX4 yX4_rankOf yX4_rankOf, Cond.code yX4_rankOf cX4_rankOf 2 (some .int), Cond.methodLink RL 177 yL_awakeAt, Cond.static yL_awakeAt, Cond.codeWith yL_awakeAt cL_awakeAt 4 (some .int) [(0, 9, 12, 21)], Cond.methodLink RL 45 yX3_awakeAt, Cond.instanceMethod yX3_awakeAt, Cond.selects RX3 yX3_awakeAt yX3_awakeAt, Cond.code yX3_awakeAt cX3_awakeAt 2 (some .int), Cond.methodLink RX3 132 yX1_countAwake, Cond.instanceMethod yX1_countAwake, Cond.selects RX1 yX1_countAwake yX1_countAwake, Cond.code yX1_countAwake cX1_countAwake 4 (some .int), Cond.methodLink RL 179 yX4_awakeAt, Cond.instanceMethod yX4_awakeAt, Cond.selects RX4 yX4_awakeAt yX4_awakeAt]
def wsL_law0_r21 : List Cond := [Cond.code yX4_awakeAt cX4_awakeAt 2 (some .int), Cond.methodLink RX4 123 yX4_awake, Cond.instanceMethod yX4_awake, Cond.selects RX4 yX4_awake yX4_awake, Cond.code yX4_awake cX4_awake 4 (some .int), Cond.methodLink RL 180 yL_hissOf, Cond.static yL_hissOf, Cond.codeWith yL_hissOf cL_hissOf 5 (some .int) [(0, 10, 13, 21), (0, 10, 17, 13)], Cond.methodLink RL 48 yX3_hissOf, Cond.instanceMethod yX3_hissOf, Cond.selects RX3 yX3_hissOf yX3_hissOf, Cond.code yX3_hissOf cX3_hissOf 3 (some .int), Cond.methodLink RX3 135 yX0_gateHiss, Cond.methodLink RL 182 yX4_hissOf, Cond.instanceMethod yX4_hissOf, Cond.selects RX4 yX4_hissOf yX4_hissOf, Cond.code yX4_hissOf cX4_hissOf 3 (some .int), Cond.methodLink RL 183 yX3_loudestGate, Cond.instanceMethod yX3_loudestGate, Cond.selects RX3 yX3_loudestGate yX3_loudestGate, Cond.code yX3_loudestGate cX3_loudestGate 5 (some .int), Cond.methodLink RL 186 yX4_loudestGate, Cond.instanceMethod yX4_loudestGate, Cond.selects RX4 yX4_loudestGate yX4_loudestGate]
def wsL_law0_r22 : List Cond := [Cond.code yX4_loudestGate cX4_loudestGate 1 (some .int), Cond.methodLink RX4 126 yX4_loudest, Cond.instanceMethod yX4_loudest, Cond.selects RX4 yX4_loudest yX4_loudest, Cond.code yX4_loudest cX4_loudest 3 (some .int), Cond.methodLink RL 187 yL_gateOf, Cond.static yL_gateOf, Cond.codeWith yL_gateOf cL_gateOf 4 (some .int) [(0, 9, 12, 21)], Cond.methodLink RL 51 yX3_gateOf, Cond.instanceMethod yX3_gateOf, Cond.selects RX3 yX3_gateOf yX3_gateOf, Cond.code yX3_gateOf cX3_gateOf 2 (some .int), Cond.methodLink RL 189 yX4_gateOf, Cond.instanceMethod yX4_gateOf, Cond.selects RX4 yX4_gateOf yX4_gateOf, Cond.code yX4_gateOf cX4_gateOf 2 (some .int), Cond.methodLink RL 190 yL_temperOf, Cond.static yL_temperOf, Cond.codeWith yL_temperOf cL_temperOf 4 (some .int) [(0, 9, 12, 21)], Cond.methodLink RL 54 yX3_temperOf, Cond.instanceMethod yX3_temperOf, Cond.selects RX3 yX3_temperOf yX3_temperOf, Cond.code yX3_temperOf cX3_temperOf 2 (some .int), Cond.methodLink RL 192 yX4_temperOf]
def wsL_law0_r23 : List Cond := [Cond.instanceMethod yX4_temperOf, Cond.selects RX4 yX4_temperOf yX4_temperOf, Cond.code yX4_temperOf cX4_temperOf 2 (some .int), Cond.methodLink RX4 129 yX4_goose, Cond.instanceMethod yX4_goose, Cond.selects RX4 yX4_goose yX4_goose, Cond.code yX4_goose cX4_goose 3 (some .int), Cond.methodLink RL 193 yL_calmFor, Cond.static yL_calmFor, Cond.codeWith yL_calmFor cL_calmFor 4 (some .int) [(0, 9, 12, 21)], Cond.methodLink RL 57 yX3_calmFor, Cond.instanceMethod yX3_calmFor, Cond.selects RX3 yX3_calmFor yX3_calmFor, Cond.code yX3_calmFor cX3_calmFor 2 (some .int), Cond.fieldLink RX3 138 "GooseCodex$Flock" "calm" "[I", Cond.methodLink RL 195 yX4_calmFor, Cond.instanceMethod yX4_calmFor, Cond.selects RX4 yX4_calmFor yX4_calmFor, Cond.code yX4_calmFor cX4_calmFor 2 (some .int), Cond.methodLink RL 196 yL_eatenBy, Cond.static yL_eatenBy, Cond.codeWith yL_eatenBy cL_eatenBy 4 (some .int) [(0, 9, 12, 21)], Cond.methodLink RL 60 yX3_eatenBy, Cond.instanceMethod yX3_eatenBy]
def wsL_law0_r24 : List Cond := [Cond.selects RX3 yX3_eatenBy yX3_eatenBy, Cond.code yX3_eatenBy cX3_eatenBy 2 (some .int), Cond.fieldLink RX3 141 "GooseCodex$Flock" "eaten" "[I", Cond.methodLink RL 198 yX4_eatenBy, Cond.instanceMethod yX4_eatenBy, Cond.selects RX4 yX4_eatenBy yX4_eatenBy, Cond.code yX4_eatenBy cX4_eatenBy 2 (some .int), Cond.methodLink RL 199 yL_passedBy, Cond.static yL_passedBy, Cond.codeWith yL_passedBy cL_passedBy 4 (some .int) [(0, 9, 12, 21)], Cond.methodLink RL 63 yX3_passedBy, Cond.instanceMethod yX3_passedBy, Cond.selects RX3 yX3_passedBy yX3_passedBy, Cond.code yX3_passedBy cX3_passedBy 2 (some .int), Cond.methodLink RL 201 yX4_passedBy, Cond.instanceMethod yX4_passedBy, Cond.selects RX4 yX4_passedBy yX4_passedBy, Cond.code yX4_passedBy cX4_passedBy 2 (some .int), Cond.methodLink RX4 132 yX4_visitor, Cond.instanceMethod yX4_visitor, Cond.selects RX4 yX4_visitor yX4_visitor, Cond.code yX4_visitor cX4_visitor 3 (some .int), Cond.methodLink RL 202 yL_isInFarm, Cond.static yL_isInFarm]
def wsL_law0_r25 : List Cond := [Cond.codeWith yL_isInFarm cL_isInFarm 4 (some .int) [(0, 16, 19, 21)], Cond.methodLink RL 66 yX3_isInFarm, Cond.instanceMethod yX3_isInFarm, Cond.selects RX3 yX3_isInFarm yX3_isInFarm, Cond.code yX3_isInFarm cX3_isInFarm 2 (some .boolean), Cond.methodLink RL 204 yX4_isInFarm, Cond.instanceMethod yX4_isInFarm, Cond.selects RX4 yX4_isInFarm yX4_isInFarm, Cond.code yX4_isInFarm cX4_isInFarm 2 (some .boolean), Cond.methodLink RL 205 yL_cornsOf, Cond.static yL_cornsOf, Cond.codeWith yL_cornsOf cL_cornsOf 4 (some .int) [(0, 9, 12, 21)], Cond.methodLink RL 70 yX3_cornsOf, Cond.instanceMethod yX3_cornsOf, Cond.selects RX3 yX3_cornsOf yX3_cornsOf, Cond.code yX3_cornsOf cX3_cornsOf 2 (some .int), Cond.methodLink RL 207 yX4_cornsOf, Cond.instanceMethod yX4_cornsOf, Cond.selects RX4 yX4_cornsOf yX4_cornsOf, Cond.code yX4_cornsOf cX4_cornsOf 2 (some .int), Cond.methodLink RL 208 yL_nerveOf, Cond.static yL_nerveOf, Cond.codeWith yL_nerveOf cL_nerveOf 4 (some .int) [(0, 9, 12, 21)], Cond.methodLink RL 73 yX3_nerveOf]
def wsL_law0_r26 : List Cond := [Cond.instanceMethod yX3_nerveOf, Cond.selects RX3 yX3_nerveOf yX3_nerveOf, Cond.code yX3_nerveOf cX3_nerveOf 2 (some .int), Cond.fieldLink RX3 144 "GooseCodex$Guests" "nerve" "[I", Cond.methodLink RL 210 yX4_nerveOf, Cond.instanceMethod yX4_nerveOf, Cond.selects RX4 yX4_nerveOf yX4_nerveOf, Cond.code yX4_nerveOf cX4_nerveOf 2 (some .int), Cond.methodLink RL 211 yL_retreatOf, Cond.static yL_retreatOf, Cond.codeWith yL_retreatOf cL_retreatOf 4 (some .int) [(0, 9, 12, 21)], Cond.methodLink RL 76 yX3_retreatOf, Cond.instanceMethod yX3_retreatOf, Cond.selects RX3 yX3_retreatOf yX3_retreatOf, Cond.code yX3_retreatOf cX3_retreatOf 2 (some .int), Cond.fieldLink RX3 147 "GooseCodex$Guests" "retreat" "[I", Cond.methodLink RL 213 yX4_retreatOf, Cond.instanceMethod yX4_retreatOf, Cond.selects RX4 yX4_retreatOf yX4_retreatOf, Cond.code yX4_retreatOf cX4_retreatOf 2 (some .int), Cond.methodLink RL 214 yL_hissAt, Cond.static yL_hissAt, Cond.codeWith yL_hissAt cL_hissAt 4 (some .int) [(0, 9, 12, 21)], Cond.methodLink RL 79 yX3_hissAt]
def wsL_law0_r27 : List Cond := [Cond.instanceMethod yX3_hissAt, Cond.selects RX3 yX3_hissAt yX3_hissAt, Cond.code yX3_hissAt cX3_hissAt 2 (some .int), Cond.methodLink RX3 150 yX0_guestHiss, Cond.instanceMethod yX0_guestHiss, Cond.selects RX0 yX0_guestHiss yX0_guestHiss, Cond.code yX0_guestHiss cX0_guestHiss 2 (some .int), Cond.methodLink RL 216 yX4_hissAt, Cond.instanceMethod yX4_hissAt, Cond.selects RX4 yX4_hissAt yX4_hissAt, Cond.code yX4_hissAt cX4_hissAt 2 (some .int), Cond.methodLink RX4 135 yX4_hissNow, Cond.instanceMethod yX4_hissNow, Cond.selects RX4 yX4_hissNow yX4_hissNow, Cond.code yX4_hissNow cX4_hissNow 2 (some .int), Cond.methodLink RL 217 yL_gradeFor, Cond.static yL_gradeFor, Cond.codeWith yL_gradeFor cL_gradeFor 4 (some .int) [(0, 9, 12, 21)], Cond.methodLink RL 82 yX3_gradeFor, Cond.instanceMethod yX3_gradeFor, Cond.selects RX3 yX3_gradeFor yX3_gradeFor, Cond.code yX3_gradeFor cX3_gradeFor 2 (some .int), Cond.methodLink RX3 153 yX3_gradeOfHiss, Cond.methodLink RL 219 yX4_gradeFor]
def wsL_law0_r28 : List Cond := [Cond.instanceMethod yX4_gradeFor, Cond.selects RX4 yX4_gradeFor yX4_gradeFor, Cond.code yX4_gradeFor cX4_gradeFor 2 (some .int), Cond.methodLink RL 220 yL_dares, Cond.static yL_dares, Cond.codeWith yL_dares cL_dares 4 (some .int) [(0, 16, 19, 21)], Cond.methodLink RL 85 yX3_dares, Cond.instanceMethod yX3_dares, Cond.selects RX3 yX3_dares yX3_dares, Cond.code yX3_dares cX3_dares 2 (some .boolean), Cond.methodLink RL 222 yX4_dares, Cond.instanceMethod yX4_dares, Cond.selects RX4 yX4_dares yX4_dares, Cond.code yX4_dares cX4_dares 2 (some .boolean), Cond.methodLink RX4 138 yX4_dare, Cond.instanceMethod yX4_dare, Cond.selects RX4 yX4_dare yX4_dare, Cond.code yX4_dare cX4_dare 2 (some .boolean), Cond.methodLink RL 223 yL_beatsUntilIn, Cond.static yL_beatsUntilIn, Cond.codeWith yL_beatsUntilIn cL_beatsUntilIn 4 (some .int) [(0, 9, 12, 21)], Cond.methodLink RL 88 yX3_beatsUntilIn, Cond.instanceMethod yX3_beatsUntilIn, Cond.selects RX3 yX3_beatsUntilIn yX3_beatsUntilIn]
def wsL_law0_r29 : List Cond := [Cond.code yX3_beatsUntilIn cX3_beatsUntilIn 2 (some .int), Cond.methodLink RX3 156 yX0_copyFrom, Cond.instanceMethod yX0_copyFrom, Cond.selects RX0 yX0_copyFrom yX0_copyFrom, Cond.code yX0_copyFrom cX0_copyFrom 2 none, Cond.methodLink RX0 126 arraycopyName, Cond.native arraycopyName, Cond.static arraycopyName, Cond.initialized "java/lang/System", Cond.methodLink RX0 132 yX1_copyFrom, Cond.instanceMethod yX1_copyFrom, Cond.selects RX1 yX1_copyFrom yX1_copyFrom, Cond.code yX1_copyFrom cX1_copyFrom 2 none, Cond.methodLink RX1 41 arraycopyName, Cond.methodLink RX0 136 yX2_copyFrom, Cond.instanceMethod yX2_copyFrom, Cond.selects RX2 yX2_copyFrom yX2_copyFrom, Cond.code yX2_copyFrom cX2_copyFrom 2 none, Cond.methodLink RX2 37 arraycopyName, Cond.methodLink RX3 160 yX0_beatsToFarm, Cond.instanceMethod yX0_beatsToFarm, Cond.selects RX0 yX0_beatsToFarm yX0_beatsToFarm, Cond.code yX0_beatsToFarm cX0_beatsToFarm 4 (some .int), Cond.methodLink RL 225 yX4_beatsUntilIn]
def wsL_law0_r30 : List Cond := [Cond.instanceMethod yX4_beatsUntilIn, Cond.selects RX4 yX4_beatsUntilIn yX4_beatsUntilIn, Cond.code yX4_beatsUntilIn cX4_beatsUntilIn 2 (some .int), Cond.methodLink RX4 150 yX4_until, Cond.instanceMethod yX4_until, Cond.selects RX4 yX4_until yX4_until, Cond.code yX4_until cX4_until 3 (some .int), Cond.methodLink RX4 141 yX4_keep, Cond.instanceMethod yX4_keep, Cond.selects RX4 yX4_keep yX4_keep, Cond.code yX4_keep cX4_keep 1 none, Cond.methodLink RX4 42 arraycopyName, Cond.methodLink RX4 144 yX4_run, Cond.instanceMethod yX4_run, Cond.selects RX4 yX4_run yX4_run, Cond.code yX4_run cX4_run 4 (some .int), Cond.methodLink RX4 147 yX4_bringBack, Cond.instanceMethod yX4_bringBack, Cond.selects RX4 yX4_bringBack yX4_bringBack, Cond.code yX4_bringBack cX4_bringBack 1 none, Cond.methodLink RL 226 yL_inFarmAfter, Cond.static yL_inFarmAfter, Cond.codeWith yL_inFarmAfter cL_inFarmAfter 4 (some .int) [(0, 9, 12, 13)], Cond.methodLink RL 91 yX3_inFarmAfter]
def wsL_law0_r31 : List Cond := [Cond.instanceMethod yX3_inFarmAfter, Cond.selects RX3 yX3_inFarmAfter yX3_inFarmAfter, Cond.code yX3_inFarmAfter cX3_inFarmAfter 2 (some .int), Cond.methodLink RL 228 yX4_inFarmAfter, Cond.instanceMethod yX4_inFarmAfter, Cond.selects RX4 yX4_inFarmAfter yX4_inFarmAfter, Cond.code yX4_inFarmAfter cX4_inFarmAfter 3 (some .int), Cond.methodLink RL 229 yL_cornsWanted, Cond.static yL_cornsWanted, Cond.codeWith yL_cornsWanted cL_cornsWanted 4 (some .int) [(0, 9, 12, 21)], Cond.methodLink RL 94 yX3_cornsWanted, Cond.instanceMethod yX3_cornsWanted, Cond.selects RX3 yX3_cornsWanted yX3_cornsWanted, Cond.code yX3_cornsWanted cX3_cornsWanted 3 (some .int), Cond.methodLink RL 231 yX4_cornsWanted, Cond.instanceMethod yX4_cornsWanted, Cond.selects RX4 yX4_cornsWanted yX4_cornsWanted, Cond.code yX4_cornsWanted cX4_cornsWanted 4 (some .int), Cond.methodLink RL 232 yL_bestToBribe, Cond.static yL_bestToBribe, Cond.codeWith yL_bestToBribe cL_bestToBribe 4 (some .int) [(0, 9, 12, 21)], Cond.methodLink RL 97 yX3_bestToBribe, Cond.instanceMethod yX3_bestToBribe, Cond.selects RX3 yX3_bestToBribe yX3_bestToBribe]
def wsL_law0_r32 : List Cond := [Cond.code yX3_bestToBribe cX3_bestToBribe 2 (some .int), Cond.methodLink RX3 163 yX1_fiercestAwake, Cond.methodLink RL 234 yX4_bestToBribe, Cond.instanceMethod yX4_bestToBribe, Cond.selects RX4 yX4_bestToBribe yX4_bestToBribe, Cond.code yX4_bestToBribe cX4_bestToBribe 2 (some .int), Cond.methodLink RX4 153 yX4_toBribe, Cond.instanceMethod yX4_toBribe, Cond.selects RX4 yX4_toBribe yX4_toBribe, Cond.code yX4_toBribe cX4_toBribe 2 (some .int), Cond.methodLink RL 235 yL_bribesWanted, Cond.static yL_bribesWanted, Cond.codeWith yL_bribesWanted cL_bribesWanted 4 (some .int) [(0, 9, 12, 21)], Cond.methodLink RL 100 yX3_bribesWanted, Cond.instanceMethod yX3_bribesWanted, Cond.selects RX3 yX3_bribesWanted yX3_bribesWanted, Cond.code yX3_bribesWanted cX3_bribesWanted 2 (some .int), Cond.methodLink RX3 166 yX0_fewestToCalm, Cond.instanceMethod yX0_fewestToCalm, Cond.selects RX0 yX0_fewestToCalm yX0_fewestToCalm, Cond.code yX0_fewestToCalm cX0_fewestToCalm 8 (some .int), Cond.fieldLink RX0 78 "GooseCodex$Flock" "count" "I", Cond.fieldLink RX0 82 "GooseCodex$Flock" "temper" "[I", Cond.methodLink RX0 74 yX0_guestHiss]
def wsL_law0_r33 : List Cond := [Cond.methodLink RX0 85 yX1_isAwakeThere, Cond.methodLink RL 237 yX4_bribesWanted, Cond.instanceMethod yX4_bribesWanted, Cond.selects RX4 yX4_bribesWanted yX4_bribesWanted, Cond.code yX4_bribesWanted cX4_bribesWanted 2 (some .int), Cond.methodLink RX4 156 yX4_calmWanted, Cond.instanceMethod yX4_calmWanted, Cond.selects RX4 yX4_calmWanted yX4_calmWanted, Cond.code yX4_calmWanted cX4_calmWanted 8 (some .int), Cond.methodLink RL 238 yL_rankWanted, Cond.static yL_rankWanted, Cond.codeWith yL_rankWanted cL_rankWanted 4 (some .int) [(0, 9, 12, 21)], Cond.methodLink RL 103 yX3_rankWanted, Cond.instanceMethod yX3_rankWanted, Cond.selects RX3 yX3_rankWanted yX3_rankWanted, Cond.code yX3_rankWanted cX3_rankWanted 4 (some .int), Cond.methodLink RL 240 yX4_rankWanted, Cond.instanceMethod yX4_rankWanted, Cond.selects RX4 yX4_rankWanted yX4_rankWanted, Cond.code yX4_rankWanted cX4_rankWanted 2 (some .int), Cond.methodLink RX4 159 yX4_ranked, Cond.instanceMethod yX4_ranked, Cond.selects RX4 yX4_ranked yX4_ranked, Cond.code yX4_ranked cX4_ranked 3 (some .int)]
def wsL_law0_r34 : List Cond := [Cond.methodLink RL 241 yL_firstBar, Cond.static yL_firstBar, Cond.codeWith yL_firstBar cL_firstBar 5 (some .int) [(0, 10, 13, 13)], Cond.methodLink RL 106 yX3_firstBar, Cond.instanceMethod yX3_firstBar, Cond.selects RX3 yX3_firstBar yX3_firstBar, Cond.code yX3_firstBar cX3_firstBar 4 (some .int), Cond.methodLink RL 243 yX4_firstBar, Cond.instanceMethod yX4_firstBar, Cond.selects RX4 yX4_firstBar yX4_firstBar, Cond.code yX4_firstBar cX4_firstBar 4 (some .int), Cond.methodLink RL 244 yX3_meanTemper, Cond.instanceMethod yX3_meanTemper, Cond.selects RX3 yX3_meanTemper yX3_meanTemper, Cond.code yX3_meanTemper cX3_meanTemper 2 (some .double), Cond.methodLink RX3 169 yX1_sumOfTempers, Cond.instanceMethod yX1_sumOfTempers, Cond.selects RX1 yX1_sumOfTempers yX1_sumOfTempers, Cond.code yX1_sumOfTempers cX1_sumOfTempers 3 (some .int), Cond.methodLink RL 248 yX4_meanTemper, Cond.instanceMethod yX4_meanTemper, Cond.selects RX4 yX4_meanTemper yX4_meanTemper, Cond.code yX4_meanTemper cX4_meanTemper 3 (some .double), Cond.methodLink RL 249 yX3_digest]
def wsL_law0_r35 : List Cond := [Cond.instanceMethod yX3_digest, Cond.selects RX3 yX3_digest yX3_digest, Cond.code yX3_digest cX3_digest 4 (some .long), Cond.constantLong RX3 172 (1973), Cond.methodLink RX3 174 yX3_beats, Cond.methodLink RX3 177 yX3_mix, Cond.static yX3_mix, Cond.code yX3_mix cX3_mix 4 (some .long), Cond.constantLong RX3 257 (31), Cond.methodLink RX3 181 yX3_gates, Cond.methodLink RX3 184 yX3_geese, Cond.methodLink RX3 187 yX3_visitors, Cond.methodLink RX3 190 yX3_inFarm, Cond.methodLink RX3 193 yX3_bribes, Cond.methodLink RX3 196 yX3_retreats, Cond.methodLink RX3 199 yX3_loudestGate, Cond.methodLink RX3 202 yX3_mixGates, Cond.instanceMethod yX3_mixGates, Cond.selects RX3 yX3_mixGates yX3_mixGates, Cond.code yX3_mixGates cX3_mixGates 6 (some .long), Cond.methodLink RX3 239 yX3_rankOf, Cond.methodLink RX3 242 yX3_awakeAt, Cond.methodLink RX3 206 yX3_mixGeese, Cond.instanceMethod yX3_mixGeese]
def wsL_law0_r36 : List Cond := [Cond.selects RX3 yX3_mixGeese yX3_mixGeese, Cond.code yX3_mixGeese cX3_mixGeese 6 (some .long), Cond.methodLink RX3 245 yX3_gateOf, Cond.methodLink RX3 248 yX3_temperOf, Cond.methodLink RX3 251 yX3_calmFor, Cond.methodLink RX3 254 yX3_eatenBy, Cond.methodLink RX3 209 yX3_passedBy, Cond.methodLink RX3 212 yX3_cornsOf, Cond.methodLink RX3 215 yX3_nerveOf, Cond.methodLink RX3 218 yX3_retreatOf, Cond.methodLink RX3 221 yX3_hissAt, Cond.methodLink RX3 224 yX3_dares, Cond.methodLink RX3 227 yX3_beatsUntilIn, Cond.methodLink RX3 230 yX3_bestToBribe, Cond.methodLink RX3 233 yX3_bribesWanted, Cond.methodLink RX3 236 yX3_rankWanted, Cond.methodLink RL 253 yX4_digest, Cond.instanceMethod yX4_digest, Cond.selects RX4 yX4_digest yX4_digest, Cond.code yX4_digest cX4_digest 10 (some .long), Cond.constantLong RX4 162 (1973), Cond.constantLong RX4 164 (31)]
def wsL_law0 : List Cond := (wsL_law0_r1 ++ (wsL_law0_r2 ++ (wsL_law0_r3 ++ (wsL_law0_r4 ++ (wsL_law0_r5 ++ (wsL_law0_r6 ++ (wsL_law0_r7 ++ (wsL_law0_r8 ++ (wsL_law0_r9 ++ (wsL_law0_r10 ++ (wsL_law0_r11 ++ (wsL_law0_r12 ++ (wsL_law0_r13 ++ (wsL_law0_r14 ++ (wsL_law0_r15 ++ (wsL_law0_r16 ++ (wsL_law0_r17 ++ (wsL_law0_r18 ++ (wsL_law0_r19 ++ (wsL_law0_r20 ++ (wsL_law0_r21 ++ (wsL_law0_r22 ++ (wsL_law0_r23 ++ (wsL_law0_r24 ++ (wsL_law0_r25 ++ (wsL_law0_r26 ++ (wsL_law0_r27 ++ (wsL_law0_r28 ++ (wsL_law0_r29 ++ (wsL_law0_r30 ++ (wsL_law0_r31 ++ (wsL_law0_r32 ++ (wsL_law0_r33 ++ (wsL_law0_r34 ++ (wsL_law0_r35 ++ wsL_law0_r36))))))))))))))))))))))))))))))))))) ++ wsX30 ++ wsX40 ++ wsX00 ++ wsX10 ++ wsX20 ++ ([] : List Cond)
def wsL_law : List Cond := wsL_law0 ++ (vx_atS RX3 273 "java/lang/IllegalArgumentException" ["java/lang/RuntimeException", "java/lang/Exception"]).filter goodWord ++ (vx_atS RX3 278 "java/lang/IllegalStateException" ["java/lang/RuntimeException", "java/lang/Exception"]).filter goodWord ++ (vx_atS RX3 266 "java/lang/IndexOutOfBoundsException" ["java/lang/RuntimeException", "java/lang/Exception"]).filter goodWord
set_option maxRecDepth 20000 in
abbrev vwCl : List vw_C := [(RX0, TX0, 7), (RX1, TX1, 5), (RX2, TX2, 6), (RX3, TX3, 2), (RX4, TX4, 9)]
end
section
set_option maxRecDepth 20000 in
theorem ggX0_init_X1_init : GoodIn wsX0_init wsX1_init := goodIn_r _ [15, 16, 2, 3, 4, 17, 18, 19, 20, 36, 37, 38, 39, 40] (by decide +kernel) (by decide +kernel)
set_option maxRecDepth 20000 in
theorem gX0_init_X1_init_n17 : GoodIn wsX0_init (wsX1_init) := ggX0_init_X1_init
set_option maxRecDepth 20000 in
theorem ggX0_init_X2_init : GoodIn wsX0_init wsX2_init := goodIn_r _ [22, 23, 2, 3, 4, 24, 25, 26, 27, 28, 41, 42, 43, 44, 45, 46] (by decide +kernel) (by decide +kernel)
set_option maxRecDepth 20000 in
theorem gX0_init_X2_init_n24 : GoodIn wsX0_init (wsX2_init) := ggX0_init_X2_init
theorem dX0_init_0 : decode cX0_init 0 = .ok (.aload_n 0, 1) := by decide +kernel
theorem dX0_init_1 : decode cX0_init 1 = .ok (.invokespecial 3, 3) := by decide +kernel
theorem dX0_init_4 : decode cX0_init 4 = .ok (.aload_n 0, 1) := by decide +kernel
theorem dX0_init_5 : decode cX0_init 5 = .ok (.bipush 6, 2) := by decide +kernel
theorem dX0_init_7 : decode cX0_init 7 = .ok (.newarray .int, 2) := by decide +kernel
theorem dX0_init_9 : decode cX0_init 9 = .ok (.putfield 9, 3) := by decide +kernel
theorem dX0_init_12 : decode cX0_init 12 = .ok (.aload_n 0, 1) := by decide +kernel
theorem dX0_init_13 : decode cX0_init 13 = .ok (.new 15, 3) := by decide +kernel
theorem dX0_init_16 : decode cX0_init 16 = .ok (.dup, 1) := by decide +kernel
theorem dX0_init_17 : decode cX0_init 17 = .ok (.invokespecial 17, 3) := by decide +kernel
theorem dX0_init_20 : decode cX0_init 20 = .ok (.putfield 18, 3) := by decide +kernel
theorem dX0_init_23 : decode cX0_init 23 = .ok (.aload_n 0, 1) := by decide +kernel
theorem dX0_init_24 : decode cX0_init 24 = .ok (.new 22, 3) := by decide +kernel
theorem dX0_init_27 : decode cX0_init 27 = .ok (.dup, 1) := by decide +kernel
theorem dX0_init_28 : decode cX0_init 28 = .ok (.invokespecial 24, 3) := by decide +kernel
theorem dX0_init_31 : decode cX0_init 31 = .ok (.putfield 25, 3) := by decide +kernel
theorem dX0_init_34 : decode cX0_init 34 = .ok (.return_, 1) := by decide +kernel
theorem dX0_hasGate_0 : decode cX0_hasGate 0 = .ok (.iload_n 1, 1) := by decide +kernel
theorem dX0_hasGate_1 : decode cX0_hasGate 1 = .ok (.ifCond .lt 15, 3) := by decide +kernel
theorem dX0_hasGate_4 : decode cX0_hasGate 4 = .ok (.iload_n 1, 1) := by decide +kernel
theorem dX0_hasGate_5 : decode cX0_hasGate 5 = .ok (.aload_n 0, 1) := by decide +kernel
theorem dX0_hasGate_6 : decode cX0_hasGate 6 = .ok (.getfield 29, 3) := by decide +kernel
theorem dX0_hasGate_9 : decode cX0_hasGate 9 = .ok (.if_icmp .ge 7, 3) := by decide +kernel
theorem dX0_hasGate_12 : decode cX0_hasGate 12 = .ok (.iconst 1, 1) := by decide +kernel
theorem dX0_hasGate_13 : decode cX0_hasGate 13 = .ok (.goto 4, 3) := by decide +kernel
theorem dX0_hasGate_16 : decode cX0_hasGate 16 = .ok (.iconst 0, 1) := by decide +kernel
theorem dX0_hasGate_17 : decode cX0_hasGate 17 = .ok (.ireturn, 1) := by decide +kernel
theorem dX0_putGate_0 : decode cX0_putGate 0 = .ok (.aload_n 0, 1) := by decide +kernel
theorem dX0_putGate_1 : decode cX0_putGate 1 = .ok (.getfield 29, 3) := by decide +kernel
theorem dX0_putGate_4 : decode cX0_putGate 4 = .ok (.istore_n 2, 1) := by decide +kernel
theorem dX0_putGate_5 : decode cX0_putGate 5 = .ok (.aload_n 0, 1) := by decide +kernel
theorem dX0_putGate_6 : decode cX0_putGate 6 = .ok (.getfield 9, 3) := by decide +kernel
theorem dX0_putGate_9 : decode cX0_putGate 9 = .ok (.iload_n 2, 1) := by decide +kernel
theorem dX0_putGate_10 : decode cX0_putGate 10 = .ok (.iload_n 1, 1) := by decide +kernel
theorem dX0_putGate_11 : decode cX0_putGate 11 = .ok (.iastore, 1) := by decide +kernel
theorem dX0_putGate_12 : decode cX0_putGate 12 = .ok (.aload_n 0, 1) := by decide +kernel
theorem dX0_putGate_13 : decode cX0_putGate 13 = .ok (.dup, 1) := by decide +kernel
theorem dX0_putGate_14 : decode cX0_putGate 14 = .ok (.getfield 29, 3) := by decide +kernel
theorem dX0_putGate_17 : decode cX0_putGate 17 = .ok (.iconst 1, 1) := by decide +kernel
theorem dX0_putGate_18 : decode cX0_putGate 18 = .ok (.iadd, 1) := by decide +kernel
theorem dX0_putGate_19 : decode cX0_putGate 19 = .ok (.putfield 29, 3) := by decide +kernel
theorem dX0_putGate_22 : decode cX0_putGate 22 = .ok (.iload_n 2, 1) := by decide +kernel
theorem dX0_putGate_23 : decode cX0_putGate 23 = .ok (.ireturn, 1) := by decide +kernel
set_option maxRecDepth 20000 in
theorem ggX0_rankLack_X0_hasGate : GoodIn wsX0_rankLack wsX0_hasGate := goodIn_r _ [10, 11, 12, 13, 14, 15, 16, 17, 18] (by decide +kernel) (by decide +kernel)
set_option maxRecDepth 20000 in
theorem gX0_rankLack_X0_hasGate : GoodIn wsX0_rankLack (wsV RX0 33 RX0 yX0_hasGate wsX0_hasGate) := goodIn_app (goodIn_of _ (by decide +kernel)) ggX0_rankLack_X0_hasGate
theorem dX0_rankLack_0 : decode cX0_rankLack 0 = .ok (.aload_n 0, 1) := by decide +kernel
theorem dX0_rankLack_1 : decode cX0_rankLack 1 = .ok (.iload_n 1, 1) := by decide +kernel
theorem dX0_rankLack_2 : decode cX0_rankLack 2 = .ok (.invokevirtual 33, 3) := by decide +kernel
theorem dX0_rankLack_5 : decode cX0_rankLack 5 = .ok (.ifCond .eq 18, 3) := by decide +kernel
theorem dX0_rankLack_8 : decode cX0_rankLack 8 = .ok (.iconst 0, 1) := by decide +kernel
theorem dX0_rankLack_9 : decode cX0_rankLack 9 = .ok (.aload_n 0, 1) := by decide +kernel
theorem dX0_rankLack_10 : decode cX0_rankLack 10 = .ok (.getfield 9, 3) := by decide +kernel
theorem dX0_rankLack_13 : decode cX0_rankLack 13 = .ok (.iload_n 1, 1) := by decide +kernel
theorem dX0_rankLack_14 : decode cX0_rankLack 14 = .ok (.iaload, 1) := by decide +kernel
theorem dX0_rankLack_15 : decode cX0_rankLack 15 = .ok (.iload_n 2, 1) := by decide +kernel
theorem dX0_rankLack_16 : decode cX0_rankLack 16 = .ok (.isub, 1) := by decide +kernel
theorem dX0_rankLack_17 : decode cX0_rankLack 17 = .ok (.invokestatic 37, 3) := by decide +kernel
theorem dX0_rankLack_20 : decode cX0_rankLack 20 = .ok (.goto 4, 3) := by decide +kernel
theorem dX0_rankLack_23 : decode cX0_rankLack 23 = .ok (.iconst 0, 1) := by decide +kernel
theorem dX0_rankLack_24 : decode cX0_rankLack 24 = .ok (.ireturn, 1) := by decide +kernel
set_option maxRecDepth 20000 in
theorem ggX0_gateHiss_X0_rankLack : GoodIn wsX0_gateHiss wsX0_rankLack := goodIn_r _ [6, 7, 8, 9, 10, 11, 12, 13, 14, 5, 15, 16, 30, 31, 32, 33, 34, 35, 36] (by decide +kernel) (by decide +kernel)
set_option maxRecDepth 20000 in
theorem gX0_gateHiss_X0_rankLack : GoodIn wsX0_gateHiss (wsV RX0 43 RX0 yX0_rankLack wsX0_rankLack) := goodIn_app (goodIn_of _ (by decide +kernel)) ggX0_gateHiss_X0_rankLack
set_option maxRecDepth 20000 in
theorem ggX0_gateHiss_X1_hissThere : GoodIn wsX0_gateHiss wsX1_hissThere := goodIn_r _ [21, 22, 23, 24, 25, 26, 20, 27, 28, 29, 37, 38, 39, 40, 41] (by decide +kernel) (by decide +kernel)
set_option maxRecDepth 20000 in
theorem gX0_gateHiss_X1_hissThere : GoodIn wsX0_gateHiss (wsV RX0 46 RX1 yX1_hissThere wsX1_hissThere) := goodIn_app (goodIn_of _ (by decide +kernel)) ggX0_gateHiss_X1_hissThere
theorem dX0_gateHiss_0 : decode cX0_gateHiss 0 = .ok (.aload_n 0, 1) := by decide +kernel
theorem dX0_gateHiss_1 : decode cX0_gateHiss 1 = .ok (.getfield 18, 3) := by decide +kernel
theorem dX0_gateHiss_4 : decode cX0_gateHiss 4 = .ok (.iload_n 1, 1) := by decide +kernel
theorem dX0_gateHiss_5 : decode cX0_gateHiss 5 = .ok (.aload_n 0, 1) := by decide +kernel
theorem dX0_gateHiss_6 : decode cX0_gateHiss 6 = .ok (.iload_n 1, 1) := by decide +kernel
theorem dX0_gateHiss_7 : decode cX0_gateHiss 7 = .ok (.iload_n 2, 1) := by decide +kernel
theorem dX0_gateHiss_8 : decode cX0_gateHiss 8 = .ok (.invokevirtual 43, 3) := by decide +kernel
theorem dX0_gateHiss_11 : decode cX0_gateHiss 11 = .ok (.invokevirtual 46, 3) := by decide +kernel
theorem dX0_gateHiss_14 : decode cX0_gateHiss 14 = .ok (.ireturn, 1) := by decide +kernel
set_option maxRecDepth 20000 in
theorem ggX0_guestHiss_X0_gateHiss : GoodIn wsX0_guestHiss wsX0_gateHiss := goodIn_r _ [8, 9, 10, 11, 12, 7, 13, 14, 15, 16, 17, 18, 19, 20, 21, 22, 23, 24, 25, 26, 27, 28, 29, 30, 31, 32, 33, 34, 35, 36, 37, 38, 39, 40, 41, 42, 43, 50, 51, 52, 53, 54] (by decide +kernel) (by decide +kernel)
set_option maxRecDepth 20000 in
theorem gX0_guestHiss_X0_gateHiss : GoodIn wsX0_guestHiss (wsV RX0 55 RX0 yX0_gateHiss wsX0_gateHiss) := goodIn_app (goodIn_of _ (by decide +kernel)) ggX0_guestHiss_X0_gateHiss
theorem dX0_guestHiss_0 : decode cX0_guestHiss 0 = .ok (.aload_n 0, 1) := by decide +kernel
theorem dX0_guestHiss_1 : decode cX0_guestHiss 1 = .ok (.aload_n 0, 1) := by decide +kernel
theorem dX0_guestHiss_2 : decode cX0_guestHiss 2 = .ok (.getfield 25, 3) := by decide +kernel
theorem dX0_guestHiss_5 : decode cX0_guestHiss 5 = .ok (.getfield 49, 3) := by decide +kernel
theorem dX0_guestHiss_8 : decode cX0_guestHiss 8 = .ok (.iload_n 1, 1) := by decide +kernel
theorem dX0_guestHiss_9 : decode cX0_guestHiss 9 = .ok (.iaload, 1) := by decide +kernel
theorem dX0_guestHiss_10 : decode cX0_guestHiss 10 = .ok (.aload_n 0, 1) := by decide +kernel
theorem dX0_guestHiss_11 : decode cX0_guestHiss 11 = .ok (.getfield 25, 3) := by decide +kernel
theorem dX0_guestHiss_14 : decode cX0_guestHiss 14 = .ok (.getfield 52, 3) := by decide +kernel
theorem dX0_guestHiss_17 : decode cX0_guestHiss 17 = .ok (.iload_n 1, 1) := by decide +kernel
theorem dX0_guestHiss_18 : decode cX0_guestHiss 18 = .ok (.iaload, 1) := by decide +kernel
theorem dX0_guestHiss_19 : decode cX0_guestHiss 19 = .ok (.invokevirtual 55, 3) := by decide +kernel
theorem dX0_guestHiss_22 : decode cX0_guestHiss 22 = .ok (.ireturn, 1) := by decide +kernel
theorem dX0_isBehindAll_0 : decode cX0_isBehindAll 0 = .ok (.aload_n 0, 1) := by decide +kernel
theorem dX0_isBehindAll_1 : decode cX0_isBehindAll 1 = .ok (.getfield 25, 3) := by decide +kernel
theorem dX0_isBehindAll_4 : decode cX0_isBehindAll 4 = .ok (.getfield 49, 3) := by decide +kernel
theorem dX0_isBehindAll_7 : decode cX0_isBehindAll 7 = .ok (.iload_n 1, 1) := by decide +kernel
theorem dX0_isBehindAll_8 : decode cX0_isBehindAll 8 = .ok (.iaload, 1) := by decide +kernel
theorem dX0_isBehindAll_9 : decode cX0_isBehindAll 9 = .ok (.aload_n 0, 1) := by decide +kernel
theorem dX0_isBehindAll_10 : decode cX0_isBehindAll 10 = .ok (.getfield 29, 3) := by decide +kernel
theorem dX0_isBehindAll_13 : decode cX0_isBehindAll 13 = .ok (.if_icmp .lt 7, 3) := by decide +kernel
theorem dX0_isBehindAll_16 : decode cX0_isBehindAll 16 = .ok (.iconst 1, 1) := by decide +kernel
theorem dX0_isBehindAll_17 : decode cX0_isBehindAll 17 = .ok (.goto 4, 3) := by decide +kernel
theorem dX0_isBehindAll_20 : decode cX0_isBehindAll 20 = .ok (.iconst 0, 1) := by decide +kernel
theorem dX0_isBehindAll_21 : decode cX0_isBehindAll 21 = .ok (.ireturn, 1) := by decide +kernel
set_option maxRecDepth 20000 in
theorem ggX0_countInside_X0_isBehindAll : GoodIn wsX0_countInside wsX0_isBehindAll := goodIn_r _ [7, 1, 8, 9, 10, 11, 12, 13, 14, 15, 16, 17, 18, 19, 20, 21, 22] (by decide +kernel) (by decide +kernel)
set_option maxRecDepth 20000 in
theorem gX0_countInside_X0_isBehindAll : GoodIn wsX0_countInside (wsV RX0 61 RX0 yX0_isBehindAll wsX0_isBehindAll) := goodIn_app (goodIn_of _ (by decide +kernel)) ggX0_countInside_X0_isBehindAll
theorem dX0_countInside_0 : decode cX0_countInside 0 = .ok (.iconst 0, 1) := by decide +kernel
theorem dX0_countInside_1 : decode cX0_countInside 1 = .ok (.istore_n 1, 1) := by decide +kernel
theorem dX0_countInside_2 : decode cX0_countInside 2 = .ok (.iconst 0, 1) := by decide +kernel
theorem dX0_countInside_3 : decode cX0_countInside 3 = .ok (.istore_n 2, 1) := by decide +kernel
theorem dX0_countInside_4 : decode cX0_countInside 4 = .ok (.iload_n 2, 1) := by decide +kernel
theorem dX0_countInside_5 : decode cX0_countInside 5 = .ok (.aload_n 0, 1) := by decide +kernel
theorem dX0_countInside_6 : decode cX0_countInside 6 = .ok (.getfield 25, 3) := by decide +kernel
theorem dX0_countInside_9 : decode cX0_countInside 9 = .ok (.getfield 58, 3) := by decide +kernel
theorem dX0_countInside_12 : decode cX0_countInside 12 = .ok (.if_icmp .ge 20, 3) := by decide +kernel
theorem dX0_countInside_15 : decode cX0_countInside 15 = .ok (.aload_n 0, 1) := by decide +kernel
theorem dX0_countInside_16 : decode cX0_countInside 16 = .ok (.iload_n 2, 1) := by decide +kernel
theorem dX0_countInside_17 : decode cX0_countInside 17 = .ok (.invokevirtual 61, 3) := by decide +kernel
theorem dX0_countInside_20 : decode cX0_countInside 20 = .ok (.ifCond .eq 6, 3) := by decide +kernel
theorem dX0_countInside_23 : decode cX0_countInside 23 = .ok (.iinc 1 1, 3) := by decide +kernel
theorem dX0_countInside_26 : decode cX0_countInside 26 = .ok (.iinc 2 1, 3) := by decide +kernel
theorem dX0_countInside_29 : decode cX0_countInside 29 = .ok (.goto (-25), 3) := by decide +kernel
theorem dX0_countInside_32 : decode cX0_countInside 32 = .ok (.iload_n 1, 1) := by decide +kernel
theorem dX0_countInside_33 : decode cX0_countInside 33 = .ok (.ireturn, 1) := by decide +kernel
set_option maxRecDepth 20000 in
theorem ggX0_payGoose_X1_feed : GoodIn wsX0_payGoose wsX1_feed := goodIn_r _ [9, 10, 11, 12, 13, 14, 15, 16, 30, 31, 32, 33, 34] (by decide +kernel) (by decide +kernel)
set_option maxRecDepth 20000 in
theorem gX0_payGoose_X1_feed : GoodIn wsX0_payGoose (wsV RX0 67 RX1 yX1_feed wsX1_feed) := goodIn_app (goodIn_of _ (by decide +kernel)) ggX0_payGoose_X1_feed
theorem dX0_payGoose_0 : decode cX0_payGoose 0 = .ok (.aload_n 0, 1) := by decide +kernel
theorem dX0_payGoose_1 : decode cX0_payGoose 1 = .ok (.getfield 25, 3) := by decide +kernel
theorem dX0_payGoose_4 : decode cX0_payGoose 4 = .ok (.getfield 64, 3) := by decide +kernel
theorem dX0_payGoose_7 : decode cX0_payGoose 7 = .ok (.iload_n 1, 1) := by decide +kernel
theorem dX0_payGoose_8 : decode cX0_payGoose 8 = .ok (.dup2, 1) := by decide +kernel
theorem dX0_payGoose_9 : decode cX0_payGoose 9 = .ok (.iaload, 1) := by decide +kernel
theorem dX0_payGoose_10 : decode cX0_payGoose 10 = .ok (.iconst 1, 1) := by decide +kernel
theorem dX0_payGoose_11 : decode cX0_payGoose 11 = .ok (.isub, 1) := by decide +kernel
theorem dX0_payGoose_12 : decode cX0_payGoose 12 = .ok (.iastore, 1) := by decide +kernel
theorem dX0_payGoose_13 : decode cX0_payGoose 13 = .ok (.aload_n 0, 1) := by decide +kernel
theorem dX0_payGoose_14 : decode cX0_payGoose 14 = .ok (.getfield 18, 3) := by decide +kernel
theorem dX0_payGoose_17 : decode cX0_payGoose 17 = .ok (.iload_n 2, 1) := by decide +kernel
theorem dX0_payGoose_18 : decode cX0_payGoose 18 = .ok (.invokevirtual 67, 3) := by decide +kernel
theorem dX0_payGoose_21 : decode cX0_payGoose 21 = .ok (.aload_n 0, 1) := by decide +kernel
theorem dX0_payGoose_22 : decode cX0_payGoose 22 = .ok (.dup, 1) := by decide +kernel
theorem dX0_payGoose_23 : decode cX0_payGoose 23 = .ok (.getfield 71, 3) := by decide +kernel
theorem dX0_payGoose_26 : decode cX0_payGoose 26 = .ok (.iconst 1, 1) := by decide +kernel
theorem dX0_payGoose_27 : decode cX0_payGoose 27 = .ok (.iadd, 1) := by decide +kernel
theorem dX0_payGoose_28 : decode cX0_payGoose 28 = .ok (.putfield 71, 3) := by decide +kernel
theorem dX0_payGoose_31 : decode cX0_payGoose 31 = .ok (.return_, 1) := by decide +kernel
set_option maxRecDepth 20000 in
theorem ggX0_fewestToCalm_X0_rankLack : GoodIn wsX0_fewestToCalm wsX0_rankLack := goodIn_r _ [12, 13, 14, 15, 16, 17, 18, 19, 20, 11, 21, 22, 45, 46, 47, 48, 49, 50, 51] (by decide +kernel) (by decide +kernel)
set_option maxRecDepth 20000 in
theorem gX0_fewestToCalm_X0_rankLack : GoodIn wsX0_fewestToCalm (wsV RX0 43 RX0 yX0_rankLack wsX0_rankLack) := goodIn_app (goodIn_of _ (by decide +kernel)) ggX0_fewestToCalm_X0_rankLack
set_option maxRecDepth 20000 in
theorem ggX0_fewestToCalm_X0_guestHiss : GoodIn wsX0_fewestToCalm wsX0_guestHiss := goodIn_r _ [26, 1, 2, 3, 27, 28, 29, 11, 30, 4, 8, 9, 10, 12, 13, 14, 15, 16, 17, 18, 19, 20, 21, 22, 31, 32, 33, 34, 35, 36, 37, 38, 39, 40, 41, 42, 43, 45, 46, 47, 48, 49, 50, 51, 52, 53, 54, 55, 56, 57, 58, 59, 60, 61, 62] (by decide +kernel) (by decide +kernel)
set_option maxRecDepth 20000 in
theorem gX0_fewestToCalm_X0_guestHiss : GoodIn wsX0_fewestToCalm (wsV RX0 74 RX0 yX0_guestHiss wsX0_guestHiss) := goodIn_app (goodIn_of _ (by decide +kernel)) ggX0_fewestToCalm_X0_guestHiss
set_option maxRecDepth 20000 in
theorem ggX0_fewestToCalm_X1_isAwakeThere : GoodIn wsX0_fewestToCalm wsX1_isAwakeThere := goodIn_r _ [41, 42, 43, 58, 59, 60, 61, 62] (by decide +kernel) (by decide +kernel)
set_option maxRecDepth 20000 in
theorem gX0_fewestToCalm_X1_isAwakeThere : GoodIn wsX0_fewestToCalm (wsV RX0 85 RX1 yX1_isAwakeThere wsX1_isAwakeThere) := goodIn_app (goodIn_of _ (by decide +kernel)) ggX0_fewestToCalm_X1_isAwakeThere
theorem dX0_fewestToCalm_0 : decode cX0_fewestToCalm 0 = .ok (.aload_n 0, 1) := by decide +kernel
theorem dX0_fewestToCalm_1 : decode cX0_fewestToCalm 1 = .ok (.getfield 25, 3) := by decide +kernel
theorem dX0_fewestToCalm_4 : decode cX0_fewestToCalm 4 = .ok (.getfield 49, 3) := by decide +kernel
theorem dX0_fewestToCalm_7 : decode cX0_fewestToCalm 7 = .ok (.iload_n 1, 1) := by decide +kernel
theorem dX0_fewestToCalm_8 : decode cX0_fewestToCalm 8 = .ok (.iaload, 1) := by decide +kernel
theorem dX0_fewestToCalm_9 : decode cX0_fewestToCalm 9 = .ok (.istore_n 2, 1) := by decide +kernel
theorem dX0_fewestToCalm_10 : decode cX0_fewestToCalm 10 = .ok (.aload_n 0, 1) := by decide +kernel
theorem dX0_fewestToCalm_11 : decode cX0_fewestToCalm 11 = .ok (.iload_n 2, 1) := by decide +kernel
theorem dX0_fewestToCalm_12 : decode cX0_fewestToCalm 12 = .ok (.aload_n 0, 1) := by decide +kernel
theorem dX0_fewestToCalm_13 : decode cX0_fewestToCalm 13 = .ok (.getfield 25, 3) := by decide +kernel
theorem dX0_fewestToCalm_16 : decode cX0_fewestToCalm 16 = .ok (.getfield 52, 3) := by decide +kernel
theorem dX0_fewestToCalm_19 : decode cX0_fewestToCalm 19 = .ok (.iload_n 1, 1) := by decide +kernel
theorem dX0_fewestToCalm_20 : decode cX0_fewestToCalm 20 = .ok (.iaload, 1) := by decide +kernel
theorem dX0_fewestToCalm_21 : decode cX0_fewestToCalm 21 = .ok (.invokevirtual 43, 3) := by decide +kernel
theorem dX0_fewestToCalm_24 : decode cX0_fewestToCalm 24 = .ok (.istore_n 3, 1) := by decide +kernel
theorem dX0_fewestToCalm_25 : decode cX0_fewestToCalm 25 = .ok (.aload_n 0, 1) := by decide +kernel
theorem dX0_fewestToCalm_26 : decode cX0_fewestToCalm 26 = .ok (.iload_n 1, 1) := by decide +kernel
theorem dX0_fewestToCalm_27 : decode cX0_fewestToCalm 27 = .ok (.invokevirtual 74, 3) := by decide +kernel
theorem dX0_fewestToCalm_30 : decode cX0_fewestToCalm 30 = .ok (.istore 4, 2) := by decide +kernel
theorem dX0_fewestToCalm_32 : decode cX0_fewestToCalm 32 = .ok (.iconst 0, 1) := by decide +kernel
theorem dX0_fewestToCalm_33 : decode cX0_fewestToCalm 33 = .ok (.istore 5, 2) := by decide +kernel
theorem dX0_fewestToCalm_35 : decode cX0_fewestToCalm 35 = .ok (.bipush 9, 2) := by decide +kernel
theorem dX0_fewestToCalm_37 : decode cX0_fewestToCalm 37 = .ok (.istore 6, 2) := by decide +kernel
theorem dX0_fewestToCalm_39 : decode cX0_fewestToCalm 39 = .ok (.iload 6, 2) := by decide +kernel
theorem dX0_fewestToCalm_41 : decode cX0_fewestToCalm 41 = .ok (.iconst 1, 1) := by decide +kernel
theorem dX0_fewestToCalm_42 : decode cX0_fewestToCalm 42 = .ok (.if_icmp .lt 84, 3) := by decide +kernel
theorem dX0_fewestToCalm_45 : decode cX0_fewestToCalm 45 = .ok (.iconst 0, 1) := by decide +kernel
theorem dX0_fewestToCalm_46 : decode cX0_fewestToCalm 46 = .ok (.istore 7, 2) := by decide +kernel
theorem dX0_fewestToCalm_48 : decode cX0_fewestToCalm 48 = .ok (.iload 7, 2) := by decide +kernel
theorem dX0_fewestToCalm_50 : decode cX0_fewestToCalm 50 = .ok (.aload_n 0, 1) := by decide +kernel
theorem dX0_fewestToCalm_51 : decode cX0_fewestToCalm 51 = .ok (.getfield 18, 3) := by decide +kernel
theorem dX0_fewestToCalm_54 : decode cX0_fewestToCalm 54 = .ok (.getfield 78, 3) := by decide +kernel
theorem dX0_fewestToCalm_57 : decode cX0_fewestToCalm 57 = .ok (.if_icmp .ge 63, 3) := by decide +kernel
theorem dX0_fewestToCalm_60 : decode cX0_fewestToCalm 60 = .ok (.iload 4, 2) := by decide +kernel
theorem dX0_fewestToCalm_62 : decode cX0_fewestToCalm 62 = .ok (.aload_n 0, 1) := by decide +kernel
theorem dX0_fewestToCalm_63 : decode cX0_fewestToCalm 63 = .ok (.getfield 25, 3) := by decide +kernel
theorem dX0_fewestToCalm_66 : decode cX0_fewestToCalm 66 = .ok (.getfield 79, 3) := by decide +kernel
theorem dX0_fewestToCalm_69 : decode cX0_fewestToCalm 69 = .ok (.iload_n 1, 1) := by decide +kernel
theorem dX0_fewestToCalm_70 : decode cX0_fewestToCalm 70 = .ok (.iaload, 1) := by decide +kernel
theorem dX0_fewestToCalm_71 : decode cX0_fewestToCalm 71 = .ok (.if_icmp .le 43, 3) := by decide +kernel
theorem dX0_fewestToCalm_74 : decode cX0_fewestToCalm 74 = .ok (.aload_n 0, 1) := by decide +kernel
theorem dX0_fewestToCalm_75 : decode cX0_fewestToCalm 75 = .ok (.getfield 18, 3) := by decide +kernel
theorem dX0_fewestToCalm_78 : decode cX0_fewestToCalm 78 = .ok (.getfield 82, 3) := by decide +kernel
theorem dX0_fewestToCalm_81 : decode cX0_fewestToCalm 81 = .ok (.iload 7, 2) := by decide +kernel
theorem dX0_fewestToCalm_83 : decode cX0_fewestToCalm 83 = .ok (.iaload, 1) := by decide +kernel
theorem dX0_fewestToCalm_84 : decode cX0_fewestToCalm 84 = .ok (.iload 6, 2) := by decide +kernel
theorem dX0_fewestToCalm_86 : decode cX0_fewestToCalm 86 = .ok (.if_icmp .ne 28, 3) := by decide +kernel
theorem dX0_fewestToCalm_89 : decode cX0_fewestToCalm 89 = .ok (.aload_n 0, 1) := by decide +kernel
theorem dX0_fewestToCalm_90 : decode cX0_fewestToCalm 90 = .ok (.getfield 18, 3) := by decide +kernel
theorem dX0_fewestToCalm_93 : decode cX0_fewestToCalm 93 = .ok (.iload 7, 2) := by decide +kernel
theorem dX0_fewestToCalm_95 : decode cX0_fewestToCalm 95 = .ok (.iload_n 2, 1) := by decide +kernel
theorem dX0_fewestToCalm_96 : decode cX0_fewestToCalm 96 = .ok (.invokevirtual 85, 3) := by decide +kernel
theorem dX0_fewestToCalm_99 : decode cX0_fewestToCalm 99 = .ok (.ifCond .eq 15, 3) := by decide +kernel
theorem dX0_fewestToCalm_102 : decode cX0_fewestToCalm 102 = .ok (.iload 4, 2) := by decide +kernel
theorem dX0_fewestToCalm_104 : decode cX0_fewestToCalm 104 = .ok (.iload 6, 2) := by decide +kernel
theorem dX0_fewestToCalm_106 : decode cX0_fewestToCalm 106 = .ok (.iload_n 3, 1) := by decide +kernel
theorem dX0_fewestToCalm_107 : decode cX0_fewestToCalm 107 = .ok (.iadd, 1) := by decide +kernel
theorem dX0_fewestToCalm_108 : decode cX0_fewestToCalm 108 = .ok (.isub, 1) := by decide +kernel
theorem dX0_fewestToCalm_109 : decode cX0_fewestToCalm 109 = .ok (.istore 4, 2) := by decide +kernel
theorem dX0_fewestToCalm_111 : decode cX0_fewestToCalm 111 = .ok (.iinc 5 1, 3) := by decide +kernel
theorem dX0_fewestToCalm_114 : decode cX0_fewestToCalm 114 = .ok (.iinc 7 1, 3) := by decide +kernel
theorem dX0_fewestToCalm_117 : decode cX0_fewestToCalm 117 = .ok (.goto (-69), 3) := by decide +kernel
theorem dX0_fewestToCalm_120 : decode cX0_fewestToCalm 120 = .ok (.iinc 6 (-1), 3) := by decide +kernel
theorem dX0_fewestToCalm_123 : decode cX0_fewestToCalm 123 = .ok (.goto (-84), 3) := by decide +kernel
theorem dX0_fewestToCalm_126 : decode cX0_fewestToCalm 126 = .ok (.iload 5, 2) := by decide +kernel
theorem dX0_fewestToCalm_128 : decode cX0_fewestToCalm 128 = .ok (.ireturn, 1) := by decide +kernel
set_option maxRecDepth 20000 in
theorem ggX0_runBeats_X0_runBeat : GoodIn wsX0_runBeats wsX0_runBeat := goodIn_r _ [5, 6, 7, 8, 9, 10, 11, 12, 13, 14, 15, 16, 17, 18, 19, 4, 20, 21, 22, 23, 24, 25, 26, 27, 28, 29, 30, 31, 32, 33, 34, 35, 36, 37, 38, 39, 40, 41, 42, 43, 44, 45, 46, 47, 48, 49, 50, 51, 52, 53, 54, 55, 56, 57, 58, 59, 60, 61, 62, 63, 64, 65, 66, 67, 68, 69, 70, 71, 72, 73, 74, 75, 76, 77, 78, 79, 80, 81, 82, 83, 84, 85, 86, 87, 88, 89, 90, 91, 92, 93, 94, 95, 96, 97, 98, 99, 100, 101, 102, 103, 104, 105, 106, 107, 108, 109, 110, 111, 112, 113, 114] (by decide +kernel) (by decide +kernel)
set_option maxRecDepth 20000 in
theorem gX0_runBeats_X0_runBeat : GoodIn wsX0_runBeats (wsV RX0 89 RX0 yX0_runBeat wsX0_runBeat) := goodIn_app (goodIn_of _ (by decide +kernel)) ggX0_runBeats_X0_runBeat
theorem dX0_runBeats_0 : decode cX0_runBeats 0 = .ok (.iconst 0, 1) := by decide +kernel
theorem dX0_runBeats_1 : decode cX0_runBeats 1 = .ok (.istore_n 2, 1) := by decide +kernel
theorem dX0_runBeats_2 : decode cX0_runBeats 2 = .ok (.iload_n 2, 1) := by decide +kernel
theorem dX0_runBeats_3 : decode cX0_runBeats 3 = .ok (.iload_n 1, 1) := by decide +kernel
theorem dX0_runBeats_4 : decode cX0_runBeats 4 = .ok (.if_icmp .ge 13, 3) := by decide +kernel
theorem dX0_runBeats_7 : decode cX0_runBeats 7 = .ok (.aload_n 0, 1) := by decide +kernel
theorem dX0_runBeats_8 : decode cX0_runBeats 8 = .ok (.invokevirtual 89, 3) := by decide +kernel
theorem dX0_runBeats_11 : decode cX0_runBeats 11 = .ok (.iinc 2 1, 3) := by decide +kernel
theorem dX0_runBeats_14 : decode cX0_runBeats 14 = .ok (.goto (-12), 3) := by decide +kernel
theorem dX0_runBeats_17 : decode cX0_runBeats 17 = .ok (.return_, 1) := by decide +kernel
set_option maxRecDepth 20000 in
theorem ggX0_runBeat_X1_wakeByABeat : GoodIn wsX0_runBeat wsX1_wakeByABeat := goodIn_r _ [9, 10, 11, 106, 107, 108, 109, 110] (by decide +kernel) (by decide +kernel)
set_option maxRecDepth 20000 in
theorem gX0_runBeat_X1_wakeByABeat : GoodIn wsX0_runBeat (wsV RX0 92 RX1 yX1_wakeByABeat wsX1_wakeByABeat) := goodIn_app (goodIn_of _ (by decide +kernel)) ggX0_runBeat_X1_wakeByABeat
set_option maxRecDepth 20000 in
theorem ggX0_runBeat_X0_isBehindAll : GoodIn wsX0_runBeat wsX0_isBehindAll := goodIn_r _ [16, 2, 17, 18, 93, 94, 95, 96, 97, 98, 99, 100, 101, 102, 103, 104, 105] (by decide +kernel) (by decide +kernel)
set_option maxRecDepth 20000 in
theorem gX0_runBeat_X0_isBehindAll : GoodIn wsX0_runBeat (wsV RX0 61 RX0 yX0_isBehindAll wsX0_isBehindAll) := goodIn_app (goodIn_of _ (by decide +kernel)) ggX0_runBeat_X0_isBehindAll
set_option maxRecDepth 20000 in
theorem ggX0_runBeat_X0_moveGuest : GoodIn wsX0_runBeat wsX0_moveGuest := goodIn_r _ [22, 2, 23, 17, 24, 25, 1, 26, 27, 28, 29, 30, 15, 31, 32, 33, 34, 35, 36, 37, 38, 39, 40, 41, 42, 43, 44, 18, 45, 46, 47, 8, 48, 10, 49, 50, 51, 52, 53, 54, 11, 55, 56, 57, 58, 59, 60, 61, 62, 63, 64, 65, 66, 67, 68, 69, 70, 71, 72, 73, 74, 75, 76, 77, 78, 79, 80, 81, 82, 83, 84, 85, 86, 87, 88, 89, 90, 91, 92, 93, 94, 95, 96, 97, 98, 99, 100, 101, 102, 103, 104, 105, 106, 107, 108, 109, 110] (by decide +kernel) (by decide +kernel)
set_option maxRecDepth 20000 in
theorem gX0_runBeat_X0_moveGuest : GoodIn wsX0_runBeat (wsV RX0 95 RX0 yX0_moveGuest wsX0_moveGuest) := goodIn_app (goodIn_of _ (by decide +kernel)) ggX0_runBeat_X0_moveGuest
theorem dX0_runBeat_0 : decode cX0_runBeat 0 = .ok (.aload_n 0, 1) := by decide +kernel
theorem dX0_runBeat_1 : decode cX0_runBeat 1 = .ok (.getfield 18, 3) := by decide +kernel
theorem dX0_runBeat_4 : decode cX0_runBeat 4 = .ok (.invokevirtual 92, 3) := by decide +kernel
theorem dX0_runBeat_7 : decode cX0_runBeat 7 = .ok (.iconst 0, 1) := by decide +kernel
theorem dX0_runBeat_8 : decode cX0_runBeat 8 = .ok (.istore_n 1, 1) := by decide +kernel
theorem dX0_runBeat_9 : decode cX0_runBeat 9 = .ok (.iload_n 1, 1) := by decide +kernel
theorem dX0_runBeat_10 : decode cX0_runBeat 10 = .ok (.aload_n 0, 1) := by decide +kernel
theorem dX0_runBeat_11 : decode cX0_runBeat 11 = .ok (.getfield 25, 3) := by decide +kernel
theorem dX0_runBeat_14 : decode cX0_runBeat 14 = .ok (.getfield 58, 3) := by decide +kernel
theorem dX0_runBeat_17 : decode cX0_runBeat 17 = .ok (.if_icmp .ge 22, 3) := by decide +kernel
theorem dX0_runBeat_20 : decode cX0_runBeat 20 = .ok (.aload_n 0, 1) := by decide +kernel
theorem dX0_runBeat_21 : decode cX0_runBeat 21 = .ok (.iload_n 1, 1) := by decide +kernel
theorem dX0_runBeat_22 : decode cX0_runBeat 22 = .ok (.invokevirtual 61, 3) := by decide +kernel
theorem dX0_runBeat_25 : decode cX0_runBeat 25 = .ok (.ifCond .ne 8, 3) := by decide +kernel
theorem dX0_runBeat_28 : decode cX0_runBeat 28 = .ok (.aload_n 0, 1) := by decide +kernel
theorem dX0_runBeat_29 : decode cX0_runBeat 29 = .ok (.iload_n 1, 1) := by decide +kernel
theorem dX0_runBeat_30 : decode cX0_runBeat 30 = .ok (.invokevirtual 95, 3) := by decide +kernel
theorem dX0_runBeat_33 : decode cX0_runBeat 33 = .ok (.iinc 1 1, 3) := by decide +kernel
theorem dX0_runBeat_36 : decode cX0_runBeat 36 = .ok (.goto (-27), 3) := by decide +kernel
theorem dX0_runBeat_39 : decode cX0_runBeat 39 = .ok (.aload_n 0, 1) := by decide +kernel
theorem dX0_runBeat_40 : decode cX0_runBeat 40 = .ok (.dup, 1) := by decide +kernel
theorem dX0_runBeat_41 : decode cX0_runBeat 41 = .ok (.getfield 98, 3) := by decide +kernel
theorem dX0_runBeat_44 : decode cX0_runBeat 44 = .ok (.iconst 1, 1) := by decide +kernel
theorem dX0_runBeat_45 : decode cX0_runBeat 45 = .ok (.iadd, 1) := by decide +kernel
theorem dX0_runBeat_46 : decode cX0_runBeat 46 = .ok (.putfield 98, 3) := by decide +kernel
theorem dX0_runBeat_49 : decode cX0_runBeat 49 = .ok (.return_, 1) := by decide +kernel
set_option maxRecDepth 20000 in
theorem ggX0_moveGuest_X0_gateHiss : GoodIn wsX0_moveGuest wsX0_gateHiss := goodIn_r _ [13, 6, 14, 15, 16, 12, 17, 18, 19, 20, 21, 22, 23, 24, 25, 26, 27, 28, 29, 30, 31, 32, 33, 34, 35, 36, 37, 38, 39, 40, 79, 80, 81, 82, 83, 84, 85, 92, 93, 94, 95, 96] (by decide +kernel) (by decide +kernel)
set_option maxRecDepth 20000 in
theorem gX0_moveGuest_X0_gateHiss : GoodIn wsX0_moveGuest (wsV RX0 55 RX0 yX0_gateHiss wsX0_gateHiss) := goodIn_app (goodIn_of _ (by decide +kernel)) ggX0_moveGuest_X0_gateHiss
set_option maxRecDepth 20000 in
theorem ggX0_moveGuest_X1_enrage : GoodIn wsX0_moveGuest wsX1_enrage := goodIn_r _ [44, 33, 34, 45, 46, 21, 47, 35, 36, 37, 31, 38, 39, 40, 92, 93, 94, 95, 96] (by decide +kernel) (by decide +kernel)
set_option maxRecDepth 20000 in
theorem gX0_moveGuest_X1_enrage : GoodIn wsX0_moveGuest (wsV RX0 104 RX1 yX1_enrage wsX1_enrage) := goodIn_app (goodIn_of _ (by decide +kernel)) ggX0_moveGuest_X1_enrage
set_option maxRecDepth 20000 in
theorem ggX0_moveGuest_X1_fiercestAwake : GoodIn wsX0_moveGuest wsX1_fiercestAwake := goodIn_r _ [51, 33, 34, 35, 36, 37, 31, 38, 39, 40, 92, 93, 94, 95, 96] (by decide +kernel) (by decide +kernel)
set_option maxRecDepth 20000 in
theorem gX0_moveGuest_X1_fiercestAwake : GoodIn wsX0_moveGuest (wsV RX0 107 RX1 yX1_fiercestAwake wsX1_fiercestAwake) := goodIn_app (goodIn_of _ (by decide +kernel)) ggX0_moveGuest_X1_fiercestAwake
set_option maxRecDepth 20000 in
theorem ggX0_moveGuest_X1_hasGoose : GoodIn wsX0_moveGuest wsX1_hasGoose := goodIn_r _ [55, 33, 92, 93, 94, 95, 96] (by decide +kernel) (by decide +kernel)
set_option maxRecDepth 20000 in
theorem gX0_moveGuest_X1_hasGoose : GoodIn wsX0_moveGuest (wsV RX0 110 RX1 yX1_hasGoose wsX1_hasGoose) := goodIn_app (goodIn_of _ (by decide +kernel)) ggX0_moveGuest_X1_hasGoose
set_option maxRecDepth 20000 in
theorem ggX0_moveGuest_X0_payGoose : GoodIn wsX0_moveGuest wsX0_payGoose := goodIn_r _ [59, 1, 7, 6, 60, 61, 62, 63, 31, 64, 65, 40, 34, 66, 20, 21, 22, 79, 80, 81, 82, 83, 84, 85, 86, 87, 88, 89, 90, 91, 92, 93, 94, 95, 96] (by decide +kernel) (by decide +kernel)
set_option maxRecDepth 20000 in
theorem gX0_moveGuest_X0_payGoose : GoodIn wsX0_moveGuest (wsV RX0 113 RX0 yX0_payGoose wsX0_payGoose) := goodIn_app (goodIn_of _ (by decide +kernel)) ggX0_moveGuest_X0_payGoose
set_option maxRecDepth 20000 in
theorem ggX0_moveGuest_X3_gradeOfHiss : GoodIn wsX0_moveGuest wsX3_gradeOfHiss := goodIn_r _ [69] (by decide +kernel) (by decide +kernel)
set_option maxRecDepth 20000 in
theorem gX0_moveGuest_X3_gradeOfHiss_n117 : GoodIn wsX0_moveGuest (wsX3_gradeOfHiss) := ggX0_moveGuest_X3_gradeOfHiss
set_option maxRecDepth 20000 in
theorem ggX0_moveGuest_X2_fallBack : GoodIn wsX0_moveGuest wsX2_fallBack := goodIn_r _ [74, 75, 76, 77, 46, 21, 47, 78, 86, 87, 88, 89, 90, 91] (by decide +kernel) (by decide +kernel)
set_option maxRecDepth 20000 in
theorem gX0_moveGuest_X2_fallBack : GoodIn wsX0_moveGuest (wsV RX0 120 RX2 yX2_fallBack wsX2_fallBack) := goodIn_app (goodIn_of _ (by decide +kernel)) ggX0_moveGuest_X2_fallBack
theorem dX0_moveGuest_0 : decode cX0_moveGuest 0 = .ok (.aload_n 0, 1) := by decide +kernel
theorem dX0_moveGuest_1 : decode cX0_moveGuest 1 = .ok (.getfield 25, 3) := by decide +kernel
theorem dX0_moveGuest_4 : decode cX0_moveGuest 4 = .ok (.getfield 101, 3) := by decide +kernel
theorem dX0_moveGuest_7 : decode cX0_moveGuest 7 = .ok (.iload_n 1, 1) := by decide +kernel
theorem dX0_moveGuest_8 : decode cX0_moveGuest 8 = .ok (.iaload, 1) := by decide +kernel
theorem dX0_moveGuest_9 : decode cX0_moveGuest 9 = .ok (.ifCond .le 17, 3) := by decide +kernel
theorem dX0_moveGuest_12 : decode cX0_moveGuest 12 = .ok (.aload_n 0, 1) := by decide +kernel
theorem dX0_moveGuest_13 : decode cX0_moveGuest 13 = .ok (.getfield 25, 3) := by decide +kernel
theorem dX0_moveGuest_16 : decode cX0_moveGuest 16 = .ok (.getfield 101, 3) := by decide +kernel
theorem dX0_moveGuest_19 : decode cX0_moveGuest 19 = .ok (.iload_n 1, 1) := by decide +kernel
theorem dX0_moveGuest_20 : decode cX0_moveGuest 20 = .ok (.dup2, 1) := by decide +kernel
theorem dX0_moveGuest_21 : decode cX0_moveGuest 21 = .ok (.iaload, 1) := by decide +kernel
theorem dX0_moveGuest_22 : decode cX0_moveGuest 22 = .ok (.iconst 1, 1) := by decide +kernel
theorem dX0_moveGuest_23 : decode cX0_moveGuest 23 = .ok (.isub, 1) := by decide +kernel
theorem dX0_moveGuest_24 : decode cX0_moveGuest 24 = .ok (.iastore, 1) := by decide +kernel
theorem dX0_moveGuest_25 : decode cX0_moveGuest 25 = .ok (.return_, 1) := by decide +kernel
theorem dX0_moveGuest_26 : decode cX0_moveGuest 26 = .ok (.aload_n 0, 1) := by decide +kernel
theorem dX0_moveGuest_27 : decode cX0_moveGuest 27 = .ok (.getfield 25, 3) := by decide +kernel
theorem dX0_moveGuest_30 : decode cX0_moveGuest 30 = .ok (.getfield 49, 3) := by decide +kernel
theorem dX0_moveGuest_33 : decode cX0_moveGuest 33 = .ok (.iload_n 1, 1) := by decide +kernel
theorem dX0_moveGuest_34 : decode cX0_moveGuest 34 = .ok (.iaload, 1) := by decide +kernel
theorem dX0_moveGuest_35 : decode cX0_moveGuest 35 = .ok (.istore_n 2, 1) := by decide +kernel
theorem dX0_moveGuest_36 : decode cX0_moveGuest 36 = .ok (.aload_n 0, 1) := by decide +kernel
theorem dX0_moveGuest_37 : decode cX0_moveGuest 37 = .ok (.iload_n 2, 1) := by decide +kernel
theorem dX0_moveGuest_38 : decode cX0_moveGuest 38 = .ok (.aload_n 0, 1) := by decide +kernel
theorem dX0_moveGuest_39 : decode cX0_moveGuest 39 = .ok (.getfield 25, 3) := by decide +kernel
theorem dX0_moveGuest_42 : decode cX0_moveGuest 42 = .ok (.getfield 52, 3) := by decide +kernel
theorem dX0_moveGuest_45 : decode cX0_moveGuest 45 = .ok (.iload_n 1, 1) := by decide +kernel
theorem dX0_moveGuest_46 : decode cX0_moveGuest 46 = .ok (.iaload, 1) := by decide +kernel
theorem dX0_moveGuest_47 : decode cX0_moveGuest 47 = .ok (.invokevirtual 55, 3) := by decide +kernel
theorem dX0_moveGuest_50 : decode cX0_moveGuest 50 = .ok (.istore_n 3, 1) := by decide +kernel
theorem dX0_moveGuest_51 : decode cX0_moveGuest 51 = .ok (.iload_n 3, 1) := by decide +kernel
theorem dX0_moveGuest_52 : decode cX0_moveGuest 52 = .ok (.aload_n 0, 1) := by decide +kernel
theorem dX0_moveGuest_53 : decode cX0_moveGuest 53 = .ok (.getfield 25, 3) := by decide +kernel
theorem dX0_moveGuest_56 : decode cX0_moveGuest 56 = .ok (.getfield 79, 3) := by decide +kernel
theorem dX0_moveGuest_59 : decode cX0_moveGuest 59 = .ok (.iload_n 1, 1) := by decide +kernel
theorem dX0_moveGuest_60 : decode cX0_moveGuest 60 = .ok (.iaload, 1) := by decide +kernel
theorem dX0_moveGuest_61 : decode cX0_moveGuest 61 = .ok (.if_icmp .gt 24, 3) := by decide +kernel
theorem dX0_moveGuest_64 : decode cX0_moveGuest 64 = .ok (.aload_n 0, 1) := by decide +kernel
theorem dX0_moveGuest_65 : decode cX0_moveGuest 65 = .ok (.getfield 25, 3) := by decide +kernel
theorem dX0_moveGuest_68 : decode cX0_moveGuest 68 = .ok (.getfield 49, 3) := by decide +kernel
theorem dX0_moveGuest_71 : decode cX0_moveGuest 71 = .ok (.iload_n 1, 1) := by decide +kernel
theorem dX0_moveGuest_72 : decode cX0_moveGuest 72 = .ok (.iload_n 2, 1) := by decide +kernel
theorem dX0_moveGuest_73 : decode cX0_moveGuest 73 = .ok (.iconst 1, 1) := by decide +kernel
theorem dX0_moveGuest_74 : decode cX0_moveGuest 74 = .ok (.iadd, 1) := by decide +kernel
theorem dX0_moveGuest_75 : decode cX0_moveGuest 75 = .ok (.iastore, 1) := by decide +kernel
theorem dX0_moveGuest_76 : decode cX0_moveGuest 76 = .ok (.aload_n 0, 1) := by decide +kernel
theorem dX0_moveGuest_77 : decode cX0_moveGuest 77 = .ok (.getfield 18, 3) := by decide +kernel
theorem dX0_moveGuest_80 : decode cX0_moveGuest 80 = .ok (.iload_n 2, 1) := by decide +kernel
theorem dX0_moveGuest_81 : decode cX0_moveGuest 81 = .ok (.invokevirtual 104, 3) := by decide +kernel
theorem dX0_moveGuest_84 : decode cX0_moveGuest 84 = .ok (.return_, 1) := by decide +kernel
theorem dX0_moveGuest_85 : decode cX0_moveGuest 85 = .ok (.aload_n 0, 1) := by decide +kernel
theorem dX0_moveGuest_86 : decode cX0_moveGuest 86 = .ok (.getfield 18, 3) := by decide +kernel
theorem dX0_moveGuest_89 : decode cX0_moveGuest 89 = .ok (.iload_n 2, 1) := by decide +kernel
theorem dX0_moveGuest_90 : decode cX0_moveGuest 90 = .ok (.invokevirtual 107, 3) := by decide +kernel
theorem dX0_moveGuest_93 : decode cX0_moveGuest 93 = .ok (.istore 4, 2) := by decide +kernel
theorem dX0_moveGuest_95 : decode cX0_moveGuest 95 = .ok (.aload_n 0, 1) := by decide +kernel
theorem dX0_moveGuest_96 : decode cX0_moveGuest 96 = .ok (.getfield 25, 3) := by decide +kernel
theorem dX0_moveGuest_99 : decode cX0_moveGuest 99 = .ok (.getfield 64, 3) := by decide +kernel
theorem dX0_moveGuest_102 : decode cX0_moveGuest 102 = .ok (.iload_n 1, 1) := by decide +kernel
theorem dX0_moveGuest_103 : decode cX0_moveGuest 103 = .ok (.iaload, 1) := by decide +kernel
theorem dX0_moveGuest_104 : decode cX0_moveGuest 104 = .ok (.ifCond .le 25, 3) := by decide +kernel
theorem dX0_moveGuest_107 : decode cX0_moveGuest 107 = .ok (.aload_n 0, 1) := by decide +kernel
theorem dX0_moveGuest_108 : decode cX0_moveGuest 108 = .ok (.getfield 18, 3) := by decide +kernel
theorem dX0_moveGuest_111 : decode cX0_moveGuest 111 = .ok (.iload 4, 2) := by decide +kernel
theorem dX0_moveGuest_113 : decode cX0_moveGuest 113 = .ok (.invokevirtual 110, 3) := by decide +kernel
theorem dX0_moveGuest_116 : decode cX0_moveGuest 116 = .ok (.ifCond .eq 13, 3) := by decide +kernel
theorem dX0_moveGuest_119 : decode cX0_moveGuest 119 = .ok (.aload_n 0, 1) := by decide +kernel
theorem dX0_moveGuest_120 : decode cX0_moveGuest 120 = .ok (.iload_n 1, 1) := by decide +kernel
theorem dX0_moveGuest_121 : decode cX0_moveGuest 121 = .ok (.iload 4, 2) := by decide +kernel
theorem dX0_moveGuest_123 : decode cX0_moveGuest 123 = .ok (.invokevirtual 113, 3) := by decide +kernel
theorem dX0_moveGuest_126 : decode cX0_moveGuest 126 = .ok (.goto 25, 3) := by decide +kernel
theorem dX0_moveGuest_129 : decode cX0_moveGuest 129 = .ok (.aload_n 0, 1) := by decide +kernel
theorem dX0_moveGuest_130 : decode cX0_moveGuest 130 = .ok (.getfield 25, 3) := by decide +kernel
theorem dX0_moveGuest_133 : decode cX0_moveGuest 133 = .ok (.iload_n 1, 1) := by decide +kernel
theorem dX0_moveGuest_134 : decode cX0_moveGuest 134 = .ok (.iload_n 3, 1) := by decide +kernel
theorem dX0_moveGuest_135 : decode cX0_moveGuest 135 = .ok (.invokestatic 117, 3) := by decide +kernel
theorem dX0_moveGuest_138 : decode cX0_moveGuest 138 = .ok (.invokevirtual 120, 3) := by decide +kernel
theorem dX0_moveGuest_141 : decode cX0_moveGuest 141 = .ok (.aload_n 0, 1) := by decide +kernel
theorem dX0_moveGuest_142 : decode cX0_moveGuest 142 = .ok (.dup, 1) := by decide +kernel
theorem dX0_moveGuest_143 : decode cX0_moveGuest 143 = .ok (.getfield 123, 3) := by decide +kernel
theorem dX0_moveGuest_146 : decode cX0_moveGuest 146 = .ok (.iconst 1, 1) := by decide +kernel
theorem dX0_moveGuest_147 : decode cX0_moveGuest 147 = .ok (.iadd, 1) := by decide +kernel
theorem dX0_moveGuest_148 : decode cX0_moveGuest 148 = .ok (.putfield 123, 3) := by decide +kernel
theorem dX0_moveGuest_151 : decode cX0_moveGuest 151 = .ok (.return_, 1) := by decide +kernel
set_option maxRecDepth 20000 in
theorem ggX0_beatsToFarm_X0_isBehindAll : GoodIn wsX0_beatsToFarm wsX0_isBehindAll := goodIn_r _ [5, 6, 7, 8, 97, 98, 99, 100, 101, 102, 103, 104, 105, 106, 107, 108, 109] (by decide +kernel) (by decide +kernel)
set_option maxRecDepth 20000 in
theorem gX0_beatsToFarm_X0_isBehindAll : GoodIn wsX0_beatsToFarm (wsV RX0 61 RX0 yX0_isBehindAll wsX0_isBehindAll) := goodIn_app (goodIn_of _ (by decide +kernel)) ggX0_beatsToFarm_X0_isBehindAll
set_option maxRecDepth 20000 in
theorem ggX0_beatsToFarm_X0_runBeat : GoodIn wsX0_beatsToFarm wsX0_runBeat := goodIn_r _ [12, 13, 6, 14, 15, 16, 17, 18, 19, 20, 21, 22, 1, 2, 3, 4, 5, 7, 8, 23, 24, 25, 26, 27, 28, 29, 30, 31, 32, 33, 34, 35, 36, 37, 38, 39, 40, 41, 42, 43, 44, 45, 46, 47, 48, 49, 50, 51, 52, 53, 54, 55, 56, 57, 58, 59, 60, 61, 62, 63, 64, 65, 66, 67, 68, 69, 70, 71, 72, 73, 74, 75, 76, 77, 78, 79, 80, 81, 82, 83, 84, 85, 86, 87, 88, 89, 90, 91, 92, 93, 94, 95, 96, 97, 98, 99, 100, 101, 102, 103, 104, 105, 106, 107, 108, 109, 110, 111, 112, 113, 114] (by decide +kernel) (by decide +kernel)
set_option maxRecDepth 20000 in
theorem gX0_beatsToFarm_X0_runBeat : GoodIn wsX0_beatsToFarm (wsV RX0 89 RX0 yX0_runBeat wsX0_runBeat) := goodIn_app (goodIn_of _ (by decide +kernel)) ggX0_beatsToFarm_X0_runBeat
theorem dX0_beatsToFarm_0 : decode cX0_beatsToFarm 0 = .ok (.iconst 0, 1) := by decide +kernel
theorem dX0_beatsToFarm_1 : decode cX0_beatsToFarm 1 = .ok (.istore_n 3, 1) := by decide +kernel
theorem dX0_beatsToFarm_2 : decode cX0_beatsToFarm 2 = .ok (.iload_n 3, 1) := by decide +kernel
theorem dX0_beatsToFarm_3 : decode cX0_beatsToFarm 3 = .ok (.iload_n 2, 1) := by decide +kernel
theorem dX0_beatsToFarm_4 : decode cX0_beatsToFarm 4 = .ok (.if_icmp .ge 21, 3) := by decide +kernel
theorem dX0_beatsToFarm_7 : decode cX0_beatsToFarm 7 = .ok (.aload_n 0, 1) := by decide +kernel
theorem dX0_beatsToFarm_8 : decode cX0_beatsToFarm 8 = .ok (.iload_n 1, 1) := by decide +kernel
theorem dX0_beatsToFarm_9 : decode cX0_beatsToFarm 9 = .ok (.invokevirtual 61, 3) := by decide +kernel
theorem dX0_beatsToFarm_12 : decode cX0_beatsToFarm 12 = .ok (.ifCond .ne 13, 3) := by decide +kernel
theorem dX0_beatsToFarm_15 : decode cX0_beatsToFarm 15 = .ok (.aload_n 0, 1) := by decide +kernel
theorem dX0_beatsToFarm_16 : decode cX0_beatsToFarm 16 = .ok (.invokevirtual 89, 3) := by decide +kernel
theorem dX0_beatsToFarm_19 : decode cX0_beatsToFarm 19 = .ok (.iinc 3 1, 3) := by decide +kernel
theorem dX0_beatsToFarm_22 : decode cX0_beatsToFarm 22 = .ok (.goto (-20), 3) := by decide +kernel
theorem dX0_beatsToFarm_25 : decode cX0_beatsToFarm 25 = .ok (.aload_n 0, 1) := by decide +kernel
theorem dX0_beatsToFarm_26 : decode cX0_beatsToFarm 26 = .ok (.iload_n 1, 1) := by decide +kernel
theorem dX0_beatsToFarm_27 : decode cX0_beatsToFarm 27 = .ok (.invokevirtual 61, 3) := by decide +kernel
theorem dX0_beatsToFarm_30 : decode cX0_beatsToFarm 30 = .ok (.ifCond .eq 7, 3) := by decide +kernel
theorem dX0_beatsToFarm_33 : decode cX0_beatsToFarm 33 = .ok (.iload_n 3, 1) := by decide +kernel
theorem dX0_beatsToFarm_34 : decode cX0_beatsToFarm 34 = .ok (.goto 4, 3) := by decide +kernel
theorem dX0_beatsToFarm_37 : decode cX0_beatsToFarm 37 = .ok (.iconst (-1), 1) := by decide +kernel
theorem dX0_beatsToFarm_38 : decode cX0_beatsToFarm 38 = .ok (.ireturn, 1) := by decide +kernel
set_option maxRecDepth 20000 in
theorem ggX0_copyFrom_X1_copyFrom : GoodIn wsX0_copyFrom wsX1_copyFrom := goodIn_r _ [16, 17, 18, 19, 4, 5, 6, 20, 21, 22, 42, 43, 44, 45, 46] (by decide +kernel) (by decide +kernel)
set_option maxRecDepth 20000 in
theorem gX0_copyFrom_X1_copyFrom : GoodIn wsX0_copyFrom (wsV RX0 132 RX1 yX1_copyFrom wsX1_copyFrom) := goodIn_app (goodIn_of _ (by decide +kernel)) ggX0_copyFrom_X1_copyFrom
set_option maxRecDepth 20000 in
theorem ggX0_copyFrom_X2_copyFrom : GoodIn wsX0_copyFrom wsX2_copyFrom := goodIn_r _ [27, 28, 29, 30, 4, 5, 6, 31, 32, 33, 34, 47, 48, 49, 50, 51, 52] (by decide +kernel) (by decide +kernel)
set_option maxRecDepth 20000 in
theorem gX0_copyFrom_X2_copyFrom : GoodIn wsX0_copyFrom (wsV RX0 136 RX2 yX2_copyFrom wsX2_copyFrom) := goodIn_app (goodIn_of _ (by decide +kernel)) ggX0_copyFrom_X2_copyFrom
theorem dX0_copyFrom_0 : decode cX0_copyFrom 0 = .ok (.aload_n 0, 1) := by decide +kernel
theorem dX0_copyFrom_1 : decode cX0_copyFrom 1 = .ok (.aload_n 1, 1) := by decide +kernel
theorem dX0_copyFrom_2 : decode cX0_copyFrom 2 = .ok (.getfield 29, 3) := by decide +kernel
theorem dX0_copyFrom_5 : decode cX0_copyFrom 5 = .ok (.putfield 29, 3) := by decide +kernel
theorem dX0_copyFrom_8 : decode cX0_copyFrom 8 = .ok (.aload_n 1, 1) := by decide +kernel
theorem dX0_copyFrom_9 : decode cX0_copyFrom 9 = .ok (.getfield 9, 3) := by decide +kernel
theorem dX0_copyFrom_12 : decode cX0_copyFrom 12 = .ok (.iconst 0, 1) := by decide +kernel
theorem dX0_copyFrom_13 : decode cX0_copyFrom 13 = .ok (.aload_n 0, 1) := by decide +kernel
theorem dX0_copyFrom_14 : decode cX0_copyFrom 14 = .ok (.getfield 9, 3) := by decide +kernel
theorem dX0_copyFrom_17 : decode cX0_copyFrom 17 = .ok (.iconst 0, 1) := by decide +kernel
theorem dX0_copyFrom_18 : decode cX0_copyFrom 18 = .ok (.bipush 6, 2) := by decide +kernel
theorem dX0_copyFrom_20 : decode cX0_copyFrom 20 = .ok (.invokestatic 126, 3) := by decide +kernel
theorem dX0_copyFrom_23 : decode cX0_copyFrom 23 = .ok (.aload_n 0, 1) := by decide +kernel
theorem dX0_copyFrom_24 : decode cX0_copyFrom 24 = .ok (.getfield 18, 3) := by decide +kernel
theorem dX0_copyFrom_27 : decode cX0_copyFrom 27 = .ok (.aload_n 1, 1) := by decide +kernel
theorem dX0_copyFrom_28 : decode cX0_copyFrom 28 = .ok (.getfield 18, 3) := by decide +kernel
theorem dX0_copyFrom_31 : decode cX0_copyFrom 31 = .ok (.invokevirtual 132, 3) := by decide +kernel
theorem dX0_copyFrom_34 : decode cX0_copyFrom 34 = .ok (.aload_n 0, 1) := by decide +kernel
theorem dX0_copyFrom_35 : decode cX0_copyFrom 35 = .ok (.getfield 25, 3) := by decide +kernel
theorem dX0_copyFrom_38 : decode cX0_copyFrom 38 = .ok (.aload_n 1, 1) := by decide +kernel
theorem dX0_copyFrom_39 : decode cX0_copyFrom 39 = .ok (.getfield 25, 3) := by decide +kernel
theorem dX0_copyFrom_42 : decode cX0_copyFrom 42 = .ok (.invokevirtual 136, 3) := by decide +kernel
theorem dX0_copyFrom_45 : decode cX0_copyFrom 45 = .ok (.aload_n 0, 1) := by decide +kernel
theorem dX0_copyFrom_46 : decode cX0_copyFrom 46 = .ok (.aload_n 1, 1) := by decide +kernel
theorem dX0_copyFrom_47 : decode cX0_copyFrom 47 = .ok (.getfield 98, 3) := by decide +kernel
theorem dX0_copyFrom_50 : decode cX0_copyFrom 50 = .ok (.putfield 98, 3) := by decide +kernel
theorem dX0_copyFrom_53 : decode cX0_copyFrom 53 = .ok (.aload_n 0, 1) := by decide +kernel
theorem dX0_copyFrom_54 : decode cX0_copyFrom 54 = .ok (.aload_n 1, 1) := by decide +kernel
theorem dX0_copyFrom_55 : decode cX0_copyFrom 55 = .ok (.getfield 71, 3) := by decide +kernel
theorem dX0_copyFrom_58 : decode cX0_copyFrom 58 = .ok (.putfield 71, 3) := by decide +kernel
theorem dX0_copyFrom_61 : decode cX0_copyFrom 61 = .ok (.aload_n 0, 1) := by decide +kernel
theorem dX0_copyFrom_62 : decode cX0_copyFrom 62 = .ok (.aload_n 1, 1) := by decide +kernel
theorem dX0_copyFrom_63 : decode cX0_copyFrom 63 = .ok (.getfield 123, 3) := by decide +kernel
theorem dX0_copyFrom_66 : decode cX0_copyFrom 66 = .ok (.putfield 123, 3) := by decide +kernel
theorem dX0_copyFrom_69 : decode cX0_copyFrom 69 = .ok (.return_, 1) := by decide +kernel
theorem dX1_init_0 : decode cX1_init 0 = .ok (.aload_n 0, 1) := by decide +kernel
theorem dX1_init_1 : decode cX1_init 1 = .ok (.invokespecial 3, 3) := by decide +kernel
theorem dX1_init_4 : decode cX1_init 4 = .ok (.aload_n 0, 1) := by decide +kernel
theorem dX1_init_5 : decode cX1_init 5 = .ok (.bipush 8, 2) := by decide +kernel
theorem dX1_init_7 : decode cX1_init 7 = .ok (.newarray .int, 2) := by decide +kernel
theorem dX1_init_9 : decode cX1_init 9 = .ok (.putfield 9, 3) := by decide +kernel
theorem dX1_init_12 : decode cX1_init 12 = .ok (.aload_n 0, 1) := by decide +kernel
theorem dX1_init_13 : decode cX1_init 13 = .ok (.bipush 8, 2) := by decide +kernel
theorem dX1_init_15 : decode cX1_init 15 = .ok (.newarray .int, 2) := by decide +kernel
theorem dX1_init_17 : decode cX1_init 17 = .ok (.putfield 15, 3) := by decide +kernel
theorem dX1_init_20 : decode cX1_init 20 = .ok (.aload_n 0, 1) := by decide +kernel
theorem dX1_init_21 : decode cX1_init 21 = .ok (.bipush 8, 2) := by decide +kernel
theorem dX1_init_23 : decode cX1_init 23 = .ok (.newarray .int, 2) := by decide +kernel
theorem dX1_init_25 : decode cX1_init 25 = .ok (.putfield 18, 3) := by decide +kernel
theorem dX1_init_28 : decode cX1_init 28 = .ok (.aload_n 0, 1) := by decide +kernel
theorem dX1_init_29 : decode cX1_init 29 = .ok (.bipush 8, 2) := by decide +kernel
theorem dX1_init_31 : decode cX1_init 31 = .ok (.newarray .int, 2) := by decide +kernel
theorem dX1_init_33 : decode cX1_init 33 = .ok (.putfield 21, 3) := by decide +kernel
theorem dX1_init_36 : decode cX1_init 36 = .ok (.return_, 1) := by decide +kernel
theorem dX1_hasGoose_0 : decode cX1_hasGoose 0 = .ok (.iload_n 1, 1) := by decide +kernel
theorem dX1_hasGoose_1 : decode cX1_hasGoose 1 = .ok (.ifCond .lt 15, 3) := by decide +kernel
theorem dX1_hasGoose_4 : decode cX1_hasGoose 4 = .ok (.iload_n 1, 1) := by decide +kernel
theorem dX1_hasGoose_5 : decode cX1_hasGoose 5 = .ok (.aload_n 0, 1) := by decide +kernel
theorem dX1_hasGoose_6 : decode cX1_hasGoose 6 = .ok (.getfield 24, 3) := by decide +kernel
theorem dX1_hasGoose_9 : decode cX1_hasGoose 9 = .ok (.if_icmp .ge 7, 3) := by decide +kernel
theorem dX1_hasGoose_12 : decode cX1_hasGoose 12 = .ok (.iconst 1, 1) := by decide +kernel
theorem dX1_hasGoose_13 : decode cX1_hasGoose 13 = .ok (.goto 4, 3) := by decide +kernel
theorem dX1_hasGoose_16 : decode cX1_hasGoose 16 = .ok (.iconst 0, 1) := by decide +kernel
theorem dX1_hasGoose_17 : decode cX1_hasGoose 17 = .ok (.ireturn, 1) := by decide +kernel
theorem dX1_putGoose_0 : decode cX1_putGoose 0 = .ok (.aload_n 0, 1) := by decide +kernel
theorem dX1_putGoose_1 : decode cX1_putGoose 1 = .ok (.getfield 24, 3) := by decide +kernel
theorem dX1_putGoose_4 : decode cX1_putGoose 4 = .ok (.istore_n 3, 1) := by decide +kernel
theorem dX1_putGoose_5 : decode cX1_putGoose 5 = .ok (.aload_n 0, 1) := by decide +kernel
theorem dX1_putGoose_6 : decode cX1_putGoose 6 = .ok (.getfield 9, 3) := by decide +kernel
theorem dX1_putGoose_9 : decode cX1_putGoose 9 = .ok (.iload_n 3, 1) := by decide +kernel
theorem dX1_putGoose_10 : decode cX1_putGoose 10 = .ok (.iload_n 1, 1) := by decide +kernel
theorem dX1_putGoose_11 : decode cX1_putGoose 11 = .ok (.iastore, 1) := by decide +kernel
theorem dX1_putGoose_12 : decode cX1_putGoose 12 = .ok (.aload_n 0, 1) := by decide +kernel
theorem dX1_putGoose_13 : decode cX1_putGoose 13 = .ok (.getfield 15, 3) := by decide +kernel
theorem dX1_putGoose_16 : decode cX1_putGoose 16 = .ok (.iload_n 3, 1) := by decide +kernel
theorem dX1_putGoose_17 : decode cX1_putGoose 17 = .ok (.iload_n 2, 1) := by decide +kernel
theorem dX1_putGoose_18 : decode cX1_putGoose 18 = .ok (.iastore, 1) := by decide +kernel
theorem dX1_putGoose_19 : decode cX1_putGoose 19 = .ok (.aload_n 0, 1) := by decide +kernel
theorem dX1_putGoose_20 : decode cX1_putGoose 20 = .ok (.dup, 1) := by decide +kernel
theorem dX1_putGoose_21 : decode cX1_putGoose 21 = .ok (.getfield 24, 3) := by decide +kernel
theorem dX1_putGoose_24 : decode cX1_putGoose 24 = .ok (.iconst 1, 1) := by decide +kernel
theorem dX1_putGoose_25 : decode cX1_putGoose 25 = .ok (.iadd, 1) := by decide +kernel
theorem dX1_putGoose_26 : decode cX1_putGoose 26 = .ok (.putfield 24, 3) := by decide +kernel
theorem dX1_putGoose_29 : decode cX1_putGoose 29 = .ok (.iload_n 3, 1) := by decide +kernel
theorem dX1_putGoose_30 : decode cX1_putGoose 30 = .ok (.ireturn, 1) := by decide +kernel
theorem dX1_isAwakeThere_0 : decode cX1_isAwakeThere 0 = .ok (.aload_n 0, 1) := by decide +kernel
theorem dX1_isAwakeThere_1 : decode cX1_isAwakeThere 1 = .ok (.getfield 9, 3) := by decide +kernel
theorem dX1_isAwakeThere_4 : decode cX1_isAwakeThere 4 = .ok (.iload_n 1, 1) := by decide +kernel
theorem dX1_isAwakeThere_5 : decode cX1_isAwakeThere 5 = .ok (.iaload, 1) := by decide +kernel
theorem dX1_isAwakeThere_6 : decode cX1_isAwakeThere 6 = .ok (.iload_n 2, 1) := by decide +kernel
theorem dX1_isAwakeThere_7 : decode cX1_isAwakeThere 7 = .ok (.if_icmp .ne 16, 3) := by decide +kernel
theorem dX1_isAwakeThere_10 : decode cX1_isAwakeThere 10 = .ok (.aload_n 0, 1) := by decide +kernel
theorem dX1_isAwakeThere_11 : decode cX1_isAwakeThere 11 = .ok (.getfield 18, 3) := by decide +kernel
theorem dX1_isAwakeThere_14 : decode cX1_isAwakeThere 14 = .ok (.iload_n 1, 1) := by decide +kernel
theorem dX1_isAwakeThere_15 : decode cX1_isAwakeThere 15 = .ok (.iaload, 1) := by decide +kernel
theorem dX1_isAwakeThere_16 : decode cX1_isAwakeThere 16 = .ok (.ifCond .ne 7, 3) := by decide +kernel
theorem dX1_isAwakeThere_19 : decode cX1_isAwakeThere 19 = .ok (.iconst 1, 1) := by decide +kernel
theorem dX1_isAwakeThere_20 : decode cX1_isAwakeThere 20 = .ok (.goto 4, 3) := by decide +kernel
theorem dX1_isAwakeThere_23 : decode cX1_isAwakeThere 23 = .ok (.iconst 0, 1) := by decide +kernel
theorem dX1_isAwakeThere_24 : decode cX1_isAwakeThere 24 = .ok (.ireturn, 1) := by decide +kernel
set_option maxRecDepth 20000 in
theorem ggX1_countAwake_X1_isAwakeThere : GoodIn wsX1_countAwake wsX1_isAwakeThere := goodIn_r _ [6, 7, 8, 9, 10, 11, 12, 13] (by decide +kernel) (by decide +kernel)
set_option maxRecDepth 20000 in
theorem gX1_countAwake_X1_isAwakeThere : GoodIn wsX1_countAwake (wsV RX1 28 RX1 yX1_isAwakeThere wsX1_isAwakeThere) := goodIn_app (goodIn_of _ (by decide +kernel)) ggX1_countAwake_X1_isAwakeThere
theorem dX1_countAwake_0 : decode cX1_countAwake 0 = .ok (.iconst 0, 1) := by decide +kernel
theorem dX1_countAwake_1 : decode cX1_countAwake 1 = .ok (.istore_n 2, 1) := by decide +kernel
theorem dX1_countAwake_2 : decode cX1_countAwake 2 = .ok (.iconst 0, 1) := by decide +kernel
theorem dX1_countAwake_3 : decode cX1_countAwake 3 = .ok (.istore_n 3, 1) := by decide +kernel
theorem dX1_countAwake_4 : decode cX1_countAwake 4 = .ok (.iload_n 3, 1) := by decide +kernel
theorem dX1_countAwake_5 : decode cX1_countAwake 5 = .ok (.aload_n 0, 1) := by decide +kernel
theorem dX1_countAwake_6 : decode cX1_countAwake 6 = .ok (.getfield 24, 3) := by decide +kernel
theorem dX1_countAwake_9 : decode cX1_countAwake 9 = .ok (.if_icmp .ge 21, 3) := by decide +kernel
theorem dX1_countAwake_12 : decode cX1_countAwake 12 = .ok (.aload_n 0, 1) := by decide +kernel
theorem dX1_countAwake_13 : decode cX1_countAwake 13 = .ok (.iload_n 3, 1) := by decide +kernel
theorem dX1_countAwake_14 : decode cX1_countAwake 14 = .ok (.iload_n 1, 1) := by decide +kernel
theorem dX1_countAwake_15 : decode cX1_countAwake 15 = .ok (.invokevirtual 28, 3) := by decide +kernel
theorem dX1_countAwake_18 : decode cX1_countAwake 18 = .ok (.ifCond .eq 6, 3) := by decide +kernel
theorem dX1_countAwake_21 : decode cX1_countAwake 21 = .ok (.iinc 2 1, 3) := by decide +kernel
theorem dX1_countAwake_24 : decode cX1_countAwake 24 = .ok (.iinc 3 1, 3) := by decide +kernel
theorem dX1_countAwake_27 : decode cX1_countAwake 27 = .ok (.goto (-23), 3) := by decide +kernel
theorem dX1_countAwake_30 : decode cX1_countAwake 30 = .ok (.iload_n 2, 1) := by decide +kernel
theorem dX1_countAwake_31 : decode cX1_countAwake 31 = .ok (.ireturn, 1) := by decide +kernel
set_option maxRecDepth 20000 in
theorem ggX1_hissThere_X1_isAwakeThere : GoodIn wsX1_hissThere wsX1_isAwakeThere := goodIn_r _ [7, 8, 9, 10, 11, 12, 13, 14] (by decide +kernel) (by decide +kernel)
set_option maxRecDepth 20000 in
theorem gX1_hissThere_X1_isAwakeThere : GoodIn wsX1_hissThere (wsV RX1 28 RX1 yX1_isAwakeThere wsX1_isAwakeThere) := goodIn_app (goodIn_of _ (by decide +kernel)) ggX1_hissThere_X1_isAwakeThere
theorem dX1_hissThere_0 : decode cX1_hissThere 0 = .ok (.iconst 0, 1) := by decide +kernel
theorem dX1_hissThere_1 : decode cX1_hissThere 1 = .ok (.istore_n 3, 1) := by decide +kernel
theorem dX1_hissThere_2 : decode cX1_hissThere 2 = .ok (.iconst 0, 1) := by decide +kernel
theorem dX1_hissThere_3 : decode cX1_hissThere 3 = .ok (.istore 4, 2) := by decide +kernel
theorem dX1_hissThere_5 : decode cX1_hissThere 5 = .ok (.iload 4, 2) := by decide +kernel
theorem dX1_hissThere_7 : decode cX1_hissThere 7 = .ok (.aload_n 0, 1) := by decide +kernel
theorem dX1_hissThere_8 : decode cX1_hissThere 8 = .ok (.getfield 24, 3) := by decide +kernel
theorem dX1_hissThere_11 : decode cX1_hissThere 11 = .ok (.if_icmp .ge 31, 3) := by decide +kernel
theorem dX1_hissThere_14 : decode cX1_hissThere 14 = .ok (.aload_n 0, 1) := by decide +kernel
theorem dX1_hissThere_15 : decode cX1_hissThere 15 = .ok (.iload 4, 2) := by decide +kernel
theorem dX1_hissThere_17 : decode cX1_hissThere 17 = .ok (.iload_n 1, 1) := by decide +kernel
theorem dX1_hissThere_18 : decode cX1_hissThere 18 = .ok (.invokevirtual 28, 3) := by decide +kernel
theorem dX1_hissThere_21 : decode cX1_hissThere 21 = .ok (.ifCond .eq 15, 3) := by decide +kernel
theorem dX1_hissThere_24 : decode cX1_hissThere 24 = .ok (.iload_n 3, 1) := by decide +kernel
theorem dX1_hissThere_25 : decode cX1_hissThere 25 = .ok (.aload_n 0, 1) := by decide +kernel
theorem dX1_hissThere_26 : decode cX1_hissThere 26 = .ok (.getfield 15, 3) := by decide +kernel
theorem dX1_hissThere_29 : decode cX1_hissThere 29 = .ok (.iload 4, 2) := by decide +kernel
theorem dX1_hissThere_31 : decode cX1_hissThere 31 = .ok (.iaload, 1) := by decide +kernel
theorem dX1_hissThere_32 : decode cX1_hissThere 32 = .ok (.iload_n 2, 1) := by decide +kernel
theorem dX1_hissThere_33 : decode cX1_hissThere 33 = .ok (.iadd, 1) := by decide +kernel
theorem dX1_hissThere_34 : decode cX1_hissThere 34 = .ok (.iadd, 1) := by decide +kernel
theorem dX1_hissThere_35 : decode cX1_hissThere 35 = .ok (.istore_n 3, 1) := by decide +kernel
theorem dX1_hissThere_36 : decode cX1_hissThere 36 = .ok (.iinc 4 1, 3) := by decide +kernel
theorem dX1_hissThere_39 : decode cX1_hissThere 39 = .ok (.goto (-34), 3) := by decide +kernel
theorem dX1_hissThere_42 : decode cX1_hissThere 42 = .ok (.iload_n 3, 1) := by decide +kernel
theorem dX1_hissThere_43 : decode cX1_hissThere 43 = .ok (.ireturn, 1) := by decide +kernel
set_option maxRecDepth 20000 in
theorem ggX1_fiercestAwake_X1_isAwakeThere : GoodIn wsX1_fiercestAwake wsX1_isAwakeThere := goodIn_r _ [7, 8, 9, 10, 11, 12, 13, 14] (by decide +kernel) (by decide +kernel)
set_option maxRecDepth 20000 in
theorem gX1_fiercestAwake_X1_isAwakeThere : GoodIn wsX1_fiercestAwake (wsV RX1 28 RX1 yX1_isAwakeThere wsX1_isAwakeThere) := goodIn_app (goodIn_of _ (by decide +kernel)) ggX1_fiercestAwake_X1_isAwakeThere
theorem dX1_fiercestAwake_0 : decode cX1_fiercestAwake 0 = .ok (.iconst (-1), 1) := by decide +kernel
theorem dX1_fiercestAwake_1 : decode cX1_fiercestAwake 1 = .ok (.istore_n 2, 1) := by decide +kernel
theorem dX1_fiercestAwake_2 : decode cX1_fiercestAwake 2 = .ok (.iconst 0, 1) := by decide +kernel
theorem dX1_fiercestAwake_3 : decode cX1_fiercestAwake 3 = .ok (.istore_n 3, 1) := by decide +kernel
theorem dX1_fiercestAwake_4 : decode cX1_fiercestAwake 4 = .ok (.iconst 0, 1) := by decide +kernel
theorem dX1_fiercestAwake_5 : decode cX1_fiercestAwake 5 = .ok (.istore 4, 2) := by decide +kernel
theorem dX1_fiercestAwake_7 : decode cX1_fiercestAwake 7 = .ok (.iload 4, 2) := by decide +kernel
theorem dX1_fiercestAwake_9 : decode cX1_fiercestAwake 9 = .ok (.aload_n 0, 1) := by decide +kernel
theorem dX1_fiercestAwake_10 : decode cX1_fiercestAwake 10 = .ok (.getfield 24, 3) := by decide +kernel
theorem dX1_fiercestAwake_13 : decode cX1_fiercestAwake 13 = .ok (.if_icmp .ge 41, 3) := by decide +kernel
theorem dX1_fiercestAwake_16 : decode cX1_fiercestAwake 16 = .ok (.aload_n 0, 1) := by decide +kernel
theorem dX1_fiercestAwake_17 : decode cX1_fiercestAwake 17 = .ok (.iload 4, 2) := by decide +kernel
theorem dX1_fiercestAwake_19 : decode cX1_fiercestAwake 19 = .ok (.iload_n 1, 1) := by decide +kernel
theorem dX1_fiercestAwake_20 : decode cX1_fiercestAwake 20 = .ok (.invokevirtual 28, 3) := by decide +kernel
theorem dX1_fiercestAwake_23 : decode cX1_fiercestAwake 23 = .ok (.ifCond .eq 25, 3) := by decide +kernel
theorem dX1_fiercestAwake_26 : decode cX1_fiercestAwake 26 = .ok (.aload_n 0, 1) := by decide +kernel
theorem dX1_fiercestAwake_27 : decode cX1_fiercestAwake 27 = .ok (.getfield 15, 3) := by decide +kernel
theorem dX1_fiercestAwake_30 : decode cX1_fiercestAwake 30 = .ok (.iload 4, 2) := by decide +kernel
theorem dX1_fiercestAwake_32 : decode cX1_fiercestAwake 32 = .ok (.iaload, 1) := by decide +kernel
theorem dX1_fiercestAwake_33 : decode cX1_fiercestAwake 33 = .ok (.iload_n 3, 1) := by decide +kernel
theorem dX1_fiercestAwake_34 : decode cX1_fiercestAwake 34 = .ok (.if_icmp .le 14, 3) := by decide +kernel
theorem dX1_fiercestAwake_37 : decode cX1_fiercestAwake 37 = .ok (.aload_n 0, 1) := by decide +kernel
theorem dX1_fiercestAwake_38 : decode cX1_fiercestAwake 38 = .ok (.getfield 15, 3) := by decide +kernel
theorem dX1_fiercestAwake_41 : decode cX1_fiercestAwake 41 = .ok (.iload 4, 2) := by decide +kernel
theorem dX1_fiercestAwake_43 : decode cX1_fiercestAwake 43 = .ok (.iaload, 1) := by decide +kernel
theorem dX1_fiercestAwake_44 : decode cX1_fiercestAwake 44 = .ok (.istore_n 3, 1) := by decide +kernel
theorem dX1_fiercestAwake_45 : decode cX1_fiercestAwake 45 = .ok (.iload 4, 2) := by decide +kernel
theorem dX1_fiercestAwake_47 : decode cX1_fiercestAwake 47 = .ok (.istore_n 2, 1) := by decide +kernel
theorem dX1_fiercestAwake_48 : decode cX1_fiercestAwake 48 = .ok (.iinc 4 1, 3) := by decide +kernel
theorem dX1_fiercestAwake_51 : decode cX1_fiercestAwake 51 = .ok (.goto (-44), 3) := by decide +kernel
theorem dX1_fiercestAwake_54 : decode cX1_fiercestAwake 54 = .ok (.iload_n 2, 1) := by decide +kernel
theorem dX1_fiercestAwake_55 : decode cX1_fiercestAwake 55 = .ok (.ireturn, 1) := by decide +kernel
theorem dX1_feed_0 : decode cX1_feed 0 = .ok (.aload_n 0, 1) := by decide +kernel
theorem dX1_feed_1 : decode cX1_feed 1 = .ok (.getfield 21, 3) := by decide +kernel
theorem dX1_feed_4 : decode cX1_feed 4 = .ok (.iload_n 1, 1) := by decide +kernel
theorem dX1_feed_5 : decode cX1_feed 5 = .ok (.dup2, 1) := by decide +kernel
theorem dX1_feed_6 : decode cX1_feed 6 = .ok (.iaload, 1) := by decide +kernel
theorem dX1_feed_7 : decode cX1_feed 7 = .ok (.iconst 1, 1) := by decide +kernel
theorem dX1_feed_8 : decode cX1_feed 8 = .ok (.iadd, 1) := by decide +kernel
theorem dX1_feed_9 : decode cX1_feed 9 = .ok (.iastore, 1) := by decide +kernel
theorem dX1_feed_10 : decode cX1_feed 10 = .ok (.aload_n 0, 1) := by decide +kernel
theorem dX1_feed_11 : decode cX1_feed 11 = .ok (.getfield 18, 3) := by decide +kernel
theorem dX1_feed_14 : decode cX1_feed 14 = .ok (.iload_n 1, 1) := by decide +kernel
theorem dX1_feed_15 : decode cX1_feed 15 = .ok (.iconst 3, 1) := by decide +kernel
theorem dX1_feed_16 : decode cX1_feed 16 = .ok (.iastore, 1) := by decide +kernel
theorem dX1_feed_17 : decode cX1_feed 17 = .ok (.aload_n 0, 1) := by decide +kernel
theorem dX1_feed_18 : decode cX1_feed 18 = .ok (.getfield 15, 3) := by decide +kernel
theorem dX1_feed_21 : decode cX1_feed 21 = .ok (.iload_n 1, 1) := by decide +kernel
theorem dX1_feed_22 : decode cX1_feed 22 = .ok (.iconst 1, 1) := by decide +kernel
theorem dX1_feed_23 : decode cX1_feed 23 = .ok (.aload_n 0, 1) := by decide +kernel
theorem dX1_feed_24 : decode cX1_feed 24 = .ok (.getfield 15, 3) := by decide +kernel
theorem dX1_feed_27 : decode cX1_feed 27 = .ok (.iload_n 1, 1) := by decide +kernel
theorem dX1_feed_28 : decode cX1_feed 28 = .ok (.iaload, 1) := by decide +kernel
theorem dX1_feed_29 : decode cX1_feed 29 = .ok (.iconst 1, 1) := by decide +kernel
theorem dX1_feed_30 : decode cX1_feed 30 = .ok (.isub, 1) := by decide +kernel
theorem dX1_feed_31 : decode cX1_feed 31 = .ok (.invokestatic 32, 3) := by decide +kernel
theorem dX1_feed_34 : decode cX1_feed 34 = .ok (.iastore, 1) := by decide +kernel
theorem dX1_feed_35 : decode cX1_feed 35 = .ok (.return_, 1) := by decide +kernel
set_option maxRecDepth 20000 in
theorem ggX1_enrage_X1_isAwakeThere : GoodIn wsX1_enrage wsX1_isAwakeThere := goodIn_r _ [11, 12, 13, 14, 15, 16, 17, 18] (by decide +kernel) (by decide +kernel)
set_option maxRecDepth 20000 in
theorem gX1_enrage_X1_isAwakeThere : GoodIn wsX1_enrage (wsV RX1 28 RX1 yX1_isAwakeThere wsX1_isAwakeThere) := goodIn_app (goodIn_of _ (by decide +kernel)) ggX1_enrage_X1_isAwakeThere
theorem dX1_enrage_0 : decode cX1_enrage 0 = .ok (.iconst 0, 1) := by decide +kernel
theorem dX1_enrage_1 : decode cX1_enrage 1 = .ok (.istore_n 2, 1) := by decide +kernel
theorem dX1_enrage_2 : decode cX1_enrage 2 = .ok (.iload_n 2, 1) := by decide +kernel
theorem dX1_enrage_3 : decode cX1_enrage 3 = .ok (.aload_n 0, 1) := by decide +kernel
theorem dX1_enrage_4 : decode cX1_enrage 4 = .ok (.getfield 24, 3) := by decide +kernel
theorem dX1_enrage_7 : decode cX1_enrage 7 = .ok (.if_icmp .ge 37, 3) := by decide +kernel
theorem dX1_enrage_10 : decode cX1_enrage 10 = .ok (.aload_n 0, 1) := by decide +kernel
theorem dX1_enrage_11 : decode cX1_enrage 11 = .ok (.iload_n 2, 1) := by decide +kernel
theorem dX1_enrage_12 : decode cX1_enrage 12 = .ok (.iload_n 1, 1) := by decide +kernel
theorem dX1_enrage_13 : decode cX1_enrage 13 = .ok (.invokevirtual 28, 3) := by decide +kernel
theorem dX1_enrage_16 : decode cX1_enrage 16 = .ok (.ifCond .eq 22, 3) := by decide +kernel
theorem dX1_enrage_19 : decode cX1_enrage 19 = .ok (.aload_n 0, 1) := by decide +kernel
theorem dX1_enrage_20 : decode cX1_enrage 20 = .ok (.getfield 15, 3) := by decide +kernel
theorem dX1_enrage_23 : decode cX1_enrage 23 = .ok (.iload_n 2, 1) := by decide +kernel
theorem dX1_enrage_24 : decode cX1_enrage 24 = .ok (.bipush 9, 2) := by decide +kernel
theorem dX1_enrage_26 : decode cX1_enrage 26 = .ok (.aload_n 0, 1) := by decide +kernel
theorem dX1_enrage_27 : decode cX1_enrage 27 = .ok (.getfield 15, 3) := by decide +kernel
theorem dX1_enrage_30 : decode cX1_enrage 30 = .ok (.iload_n 2, 1) := by decide +kernel
theorem dX1_enrage_31 : decode cX1_enrage 31 = .ok (.iaload, 1) := by decide +kernel
theorem dX1_enrage_32 : decode cX1_enrage 32 = .ok (.iconst 1, 1) := by decide +kernel
theorem dX1_enrage_33 : decode cX1_enrage 33 = .ok (.iadd, 1) := by decide +kernel
theorem dX1_enrage_34 : decode cX1_enrage 34 = .ok (.invokestatic 38, 3) := by decide +kernel
theorem dX1_enrage_37 : decode cX1_enrage 37 = .ok (.iastore, 1) := by decide +kernel
theorem dX1_enrage_38 : decode cX1_enrage 38 = .ok (.iinc 2 1, 3) := by decide +kernel
theorem dX1_enrage_41 : decode cX1_enrage 41 = .ok (.goto (-39), 3) := by decide +kernel
theorem dX1_enrage_44 : decode cX1_enrage 44 = .ok (.return_, 1) := by decide +kernel
theorem dX1_wakeByABeat_0 : decode cX1_wakeByABeat 0 = .ok (.iconst 0, 1) := by decide +kernel
theorem dX1_wakeByABeat_1 : decode cX1_wakeByABeat 1 = .ok (.istore_n 1, 1) := by decide +kernel
theorem dX1_wakeByABeat_2 : decode cX1_wakeByABeat 2 = .ok (.iload_n 1, 1) := by decide +kernel
theorem dX1_wakeByABeat_3 : decode cX1_wakeByABeat 3 = .ok (.aload_n 0, 1) := by decide +kernel
theorem dX1_wakeByABeat_4 : decode cX1_wakeByABeat 4 = .ok (.getfield 24, 3) := by decide +kernel
theorem dX1_wakeByABeat_7 : decode cX1_wakeByABeat 7 = .ok (.if_icmp .ge 28, 3) := by decide +kernel
theorem dX1_wakeByABeat_10 : decode cX1_wakeByABeat 10 = .ok (.aload_n 0, 1) := by decide +kernel
theorem dX1_wakeByABeat_11 : decode cX1_wakeByABeat 11 = .ok (.getfield 18, 3) := by decide +kernel
theorem dX1_wakeByABeat_14 : decode cX1_wakeByABeat 14 = .ok (.iload_n 1, 1) := by decide +kernel
theorem dX1_wakeByABeat_15 : decode cX1_wakeByABeat 15 = .ok (.iaload, 1) := by decide +kernel
theorem dX1_wakeByABeat_16 : decode cX1_wakeByABeat 16 = .ok (.ifCond .le 13, 3) := by decide +kernel
theorem dX1_wakeByABeat_19 : decode cX1_wakeByABeat 19 = .ok (.aload_n 0, 1) := by decide +kernel
theorem dX1_wakeByABeat_20 : decode cX1_wakeByABeat 20 = .ok (.getfield 18, 3) := by decide +kernel
theorem dX1_wakeByABeat_23 : decode cX1_wakeByABeat 23 = .ok (.iload_n 1, 1) := by decide +kernel
theorem dX1_wakeByABeat_24 : decode cX1_wakeByABeat 24 = .ok (.dup2, 1) := by decide +kernel
theorem dX1_wakeByABeat_25 : decode cX1_wakeByABeat 25 = .ok (.iaload, 1) := by decide +kernel
theorem dX1_wakeByABeat_26 : decode cX1_wakeByABeat 26 = .ok (.iconst 1, 1) := by decide +kernel
theorem dX1_wakeByABeat_27 : decode cX1_wakeByABeat 27 = .ok (.isub, 1) := by decide +kernel
theorem dX1_wakeByABeat_28 : decode cX1_wakeByABeat 28 = .ok (.iastore, 1) := by decide +kernel
theorem dX1_wakeByABeat_29 : decode cX1_wakeByABeat 29 = .ok (.iinc 1 1, 3) := by decide +kernel
theorem dX1_wakeByABeat_32 : decode cX1_wakeByABeat 32 = .ok (.goto (-30), 3) := by decide +kernel
theorem dX1_wakeByABeat_35 : decode cX1_wakeByABeat 35 = .ok (.return_, 1) := by decide +kernel
theorem dX1_sumOfTempers_0 : decode cX1_sumOfTempers 0 = .ok (.iconst 0, 1) := by decide +kernel
theorem dX1_sumOfTempers_1 : decode cX1_sumOfTempers 1 = .ok (.istore_n 1, 1) := by decide +kernel
theorem dX1_sumOfTempers_2 : decode cX1_sumOfTempers 2 = .ok (.iconst 0, 1) := by decide +kernel
theorem dX1_sumOfTempers_3 : decode cX1_sumOfTempers 3 = .ok (.istore_n 2, 1) := by decide +kernel
theorem dX1_sumOfTempers_4 : decode cX1_sumOfTempers 4 = .ok (.iload_n 2, 1) := by decide +kernel
theorem dX1_sumOfTempers_5 : decode cX1_sumOfTempers 5 = .ok (.aload_n 0, 1) := by decide +kernel
theorem dX1_sumOfTempers_6 : decode cX1_sumOfTempers 6 = .ok (.getfield 24, 3) := by decide +kernel
theorem dX1_sumOfTempers_9 : decode cX1_sumOfTempers 9 = .ok (.if_icmp .ge 18, 3) := by decide +kernel
theorem dX1_sumOfTempers_12 : decode cX1_sumOfTempers 12 = .ok (.iload_n 1, 1) := by decide +kernel
theorem dX1_sumOfTempers_13 : decode cX1_sumOfTempers 13 = .ok (.aload_n 0, 1) := by decide +kernel
theorem dX1_sumOfTempers_14 : decode cX1_sumOfTempers 14 = .ok (.getfield 15, 3) := by decide +kernel
theorem dX1_sumOfTempers_17 : decode cX1_sumOfTempers 17 = .ok (.iload_n 2, 1) := by decide +kernel
theorem dX1_sumOfTempers_18 : decode cX1_sumOfTempers 18 = .ok (.iaload, 1) := by decide +kernel
theorem dX1_sumOfTempers_19 : decode cX1_sumOfTempers 19 = .ok (.iadd, 1) := by decide +kernel
theorem dX1_sumOfTempers_20 : decode cX1_sumOfTempers 20 = .ok (.istore_n 1, 1) := by decide +kernel
theorem dX1_sumOfTempers_21 : decode cX1_sumOfTempers 21 = .ok (.iinc 2 1, 3) := by decide +kernel
theorem dX1_sumOfTempers_24 : decode cX1_sumOfTempers 24 = .ok (.goto (-20), 3) := by decide +kernel
theorem dX1_sumOfTempers_27 : decode cX1_sumOfTempers 27 = .ok (.iload_n 1, 1) := by decide +kernel
theorem dX1_sumOfTempers_28 : decode cX1_sumOfTempers 28 = .ok (.ireturn, 1) := by decide +kernel
theorem dX1_copyFrom_0 : decode cX1_copyFrom 0 = .ok (.aload_n 0, 1) := by decide +kernel
theorem dX1_copyFrom_1 : decode cX1_copyFrom 1 = .ok (.aload_n 1, 1) := by decide +kernel
theorem dX1_copyFrom_2 : decode cX1_copyFrom 2 = .ok (.getfield 24, 3) := by decide +kernel
theorem dX1_copyFrom_5 : decode cX1_copyFrom 5 = .ok (.putfield 24, 3) := by decide +kernel
theorem dX1_copyFrom_8 : decode cX1_copyFrom 8 = .ok (.aload_n 1, 1) := by decide +kernel
theorem dX1_copyFrom_9 : decode cX1_copyFrom 9 = .ok (.getfield 9, 3) := by decide +kernel
theorem dX1_copyFrom_12 : decode cX1_copyFrom 12 = .ok (.iconst 0, 1) := by decide +kernel
theorem dX1_copyFrom_13 : decode cX1_copyFrom 13 = .ok (.aload_n 0, 1) := by decide +kernel
theorem dX1_copyFrom_14 : decode cX1_copyFrom 14 = .ok (.getfield 9, 3) := by decide +kernel
theorem dX1_copyFrom_17 : decode cX1_copyFrom 17 = .ok (.iconst 0, 1) := by decide +kernel
theorem dX1_copyFrom_18 : decode cX1_copyFrom 18 = .ok (.bipush 8, 2) := by decide +kernel
theorem dX1_copyFrom_20 : decode cX1_copyFrom 20 = .ok (.invokestatic 41, 3) := by decide +kernel
theorem dX1_copyFrom_23 : decode cX1_copyFrom 23 = .ok (.aload_n 1, 1) := by decide +kernel
theorem dX1_copyFrom_24 : decode cX1_copyFrom 24 = .ok (.getfield 15, 3) := by decide +kernel
theorem dX1_copyFrom_27 : decode cX1_copyFrom 27 = .ok (.iconst 0, 1) := by decide +kernel
theorem dX1_copyFrom_28 : decode cX1_copyFrom 28 = .ok (.aload_n 0, 1) := by decide +kernel
theorem dX1_copyFrom_29 : decode cX1_copyFrom 29 = .ok (.getfield 15, 3) := by decide +kernel
theorem dX1_copyFrom_32 : decode cX1_copyFrom 32 = .ok (.iconst 0, 1) := by decide +kernel
theorem dX1_copyFrom_33 : decode cX1_copyFrom 33 = .ok (.bipush 8, 2) := by decide +kernel
theorem dX1_copyFrom_35 : decode cX1_copyFrom 35 = .ok (.invokestatic 41, 3) := by decide +kernel
theorem dX1_copyFrom_38 : decode cX1_copyFrom 38 = .ok (.aload_n 1, 1) := by decide +kernel
theorem dX1_copyFrom_39 : decode cX1_copyFrom 39 = .ok (.getfield 18, 3) := by decide +kernel
theorem dX1_copyFrom_42 : decode cX1_copyFrom 42 = .ok (.iconst 0, 1) := by decide +kernel
theorem dX1_copyFrom_43 : decode cX1_copyFrom 43 = .ok (.aload_n 0, 1) := by decide +kernel
theorem dX1_copyFrom_44 : decode cX1_copyFrom 44 = .ok (.getfield 18, 3) := by decide +kernel
theorem dX1_copyFrom_47 : decode cX1_copyFrom 47 = .ok (.iconst 0, 1) := by decide +kernel
theorem dX1_copyFrom_48 : decode cX1_copyFrom 48 = .ok (.bipush 8, 2) := by decide +kernel
theorem dX1_copyFrom_50 : decode cX1_copyFrom 50 = .ok (.invokestatic 41, 3) := by decide +kernel
theorem dX1_copyFrom_53 : decode cX1_copyFrom 53 = .ok (.aload_n 1, 1) := by decide +kernel
theorem dX1_copyFrom_54 : decode cX1_copyFrom 54 = .ok (.getfield 21, 3) := by decide +kernel
theorem dX1_copyFrom_57 : decode cX1_copyFrom 57 = .ok (.iconst 0, 1) := by decide +kernel
theorem dX1_copyFrom_58 : decode cX1_copyFrom 58 = .ok (.aload_n 0, 1) := by decide +kernel
theorem dX1_copyFrom_59 : decode cX1_copyFrom 59 = .ok (.getfield 21, 3) := by decide +kernel
theorem dX1_copyFrom_62 : decode cX1_copyFrom 62 = .ok (.iconst 0, 1) := by decide +kernel
theorem dX1_copyFrom_63 : decode cX1_copyFrom 63 = .ok (.bipush 8, 2) := by decide +kernel
theorem dX1_copyFrom_65 : decode cX1_copyFrom 65 = .ok (.invokestatic 41, 3) := by decide +kernel
theorem dX1_copyFrom_68 : decode cX1_copyFrom 68 = .ok (.return_, 1) := by decide +kernel
theorem dX2_init_0 : decode cX2_init 0 = .ok (.aload_n 0, 1) := by decide +kernel
theorem dX2_init_1 : decode cX2_init 1 = .ok (.invokespecial 3, 3) := by decide +kernel
theorem dX2_init_4 : decode cX2_init 4 = .ok (.aload_n 0, 1) := by decide +kernel
theorem dX2_init_5 : decode cX2_init 5 = .ok (.bipush 8, 2) := by decide +kernel
theorem dX2_init_7 : decode cX2_init 7 = .ok (.newarray .int, 2) := by decide +kernel
theorem dX2_init_9 : decode cX2_init 9 = .ok (.putfield 9, 3) := by decide +kernel
theorem dX2_init_12 : decode cX2_init 12 = .ok (.aload_n 0, 1) := by decide +kernel
theorem dX2_init_13 : decode cX2_init 13 = .ok (.bipush 8, 2) := by decide +kernel
theorem dX2_init_15 : decode cX2_init 15 = .ok (.newarray .int, 2) := by decide +kernel
theorem dX2_init_17 : decode cX2_init 17 = .ok (.putfield 15, 3) := by decide +kernel
theorem dX2_init_20 : decode cX2_init 20 = .ok (.aload_n 0, 1) := by decide +kernel
theorem dX2_init_21 : decode cX2_init 21 = .ok (.bipush 8, 2) := by decide +kernel
theorem dX2_init_23 : decode cX2_init 23 = .ok (.newarray .int, 2) := by decide +kernel
theorem dX2_init_25 : decode cX2_init 25 = .ok (.putfield 18, 3) := by decide +kernel
theorem dX2_init_28 : decode cX2_init 28 = .ok (.aload_n 0, 1) := by decide +kernel
theorem dX2_init_29 : decode cX2_init 29 = .ok (.bipush 8, 2) := by decide +kernel
theorem dX2_init_31 : decode cX2_init 31 = .ok (.newarray .int, 2) := by decide +kernel
theorem dX2_init_33 : decode cX2_init 33 = .ok (.putfield 21, 3) := by decide +kernel
theorem dX2_init_36 : decode cX2_init 36 = .ok (.aload_n 0, 1) := by decide +kernel
theorem dX2_init_37 : decode cX2_init 37 = .ok (.bipush 8, 2) := by decide +kernel
theorem dX2_init_39 : decode cX2_init 39 = .ok (.newarray .int, 2) := by decide +kernel
theorem dX2_init_41 : decode cX2_init 41 = .ok (.putfield 24, 3) := by decide +kernel
theorem dX2_init_44 : decode cX2_init 44 = .ok (.return_, 1) := by decide +kernel
theorem dX2_hasGuest_0 : decode cX2_hasGuest 0 = .ok (.iload_n 1, 1) := by decide +kernel
theorem dX2_hasGuest_1 : decode cX2_hasGuest 1 = .ok (.ifCond .lt 15, 3) := by decide +kernel
theorem dX2_hasGuest_4 : decode cX2_hasGuest 4 = .ok (.iload_n 1, 1) := by decide +kernel
theorem dX2_hasGuest_5 : decode cX2_hasGuest 5 = .ok (.aload_n 0, 1) := by decide +kernel
theorem dX2_hasGuest_6 : decode cX2_hasGuest 6 = .ok (.getfield 27, 3) := by decide +kernel
theorem dX2_hasGuest_9 : decode cX2_hasGuest 9 = .ok (.if_icmp .ge 7, 3) := by decide +kernel
theorem dX2_hasGuest_12 : decode cX2_hasGuest 12 = .ok (.iconst 1, 1) := by decide +kernel
theorem dX2_hasGuest_13 : decode cX2_hasGuest 13 = .ok (.goto 4, 3) := by decide +kernel
theorem dX2_hasGuest_16 : decode cX2_hasGuest 16 = .ok (.iconst 0, 1) := by decide +kernel
theorem dX2_hasGuest_17 : decode cX2_hasGuest 17 = .ok (.ireturn, 1) := by decide +kernel
theorem dX2_putGuest_0 : decode cX2_putGuest 0 = .ok (.aload_n 0, 1) := by decide +kernel
theorem dX2_putGuest_1 : decode cX2_putGuest 1 = .ok (.getfield 27, 3) := by decide +kernel
theorem dX2_putGuest_4 : decode cX2_putGuest 4 = .ok (.istore 4, 2) := by decide +kernel
theorem dX2_putGuest_6 : decode cX2_putGuest 6 = .ok (.aload_n 0, 1) := by decide +kernel
theorem dX2_putGuest_7 : decode cX2_putGuest 7 = .ok (.getfield 9, 3) := by decide +kernel
theorem dX2_putGuest_10 : decode cX2_putGuest 10 = .ok (.iload 4, 2) := by decide +kernel
theorem dX2_putGuest_12 : decode cX2_putGuest 12 = .ok (.iload_n 1, 1) := by decide +kernel
theorem dX2_putGuest_13 : decode cX2_putGuest 13 = .ok (.iastore, 1) := by decide +kernel
theorem dX2_putGuest_14 : decode cX2_putGuest 14 = .ok (.aload_n 0, 1) := by decide +kernel
theorem dX2_putGuest_15 : decode cX2_putGuest 15 = .ok (.getfield 15, 3) := by decide +kernel
theorem dX2_putGuest_18 : decode cX2_putGuest 18 = .ok (.iload 4, 2) := by decide +kernel
theorem dX2_putGuest_20 : decode cX2_putGuest 20 = .ok (.iload_n 2, 1) := by decide +kernel
theorem dX2_putGuest_21 : decode cX2_putGuest 21 = .ok (.iastore, 1) := by decide +kernel
theorem dX2_putGuest_22 : decode cX2_putGuest 22 = .ok (.aload_n 0, 1) := by decide +kernel
theorem dX2_putGuest_23 : decode cX2_putGuest 23 = .ok (.getfield 18, 3) := by decide +kernel
theorem dX2_putGuest_26 : decode cX2_putGuest 26 = .ok (.iload 4, 2) := by decide +kernel
theorem dX2_putGuest_28 : decode cX2_putGuest 28 = .ok (.iload_n 3, 1) := by decide +kernel
theorem dX2_putGuest_29 : decode cX2_putGuest 29 = .ok (.iastore, 1) := by decide +kernel
theorem dX2_putGuest_30 : decode cX2_putGuest 30 = .ok (.aload_n 0, 1) := by decide +kernel
theorem dX2_putGuest_31 : decode cX2_putGuest 31 = .ok (.dup, 1) := by decide +kernel
theorem dX2_putGuest_32 : decode cX2_putGuest 32 = .ok (.getfield 27, 3) := by decide +kernel
theorem dX2_putGuest_35 : decode cX2_putGuest 35 = .ok (.iconst 1, 1) := by decide +kernel
theorem dX2_putGuest_36 : decode cX2_putGuest 36 = .ok (.iadd, 1) := by decide +kernel
theorem dX2_putGuest_37 : decode cX2_putGuest 37 = .ok (.putfield 27, 3) := by decide +kernel
theorem dX2_putGuest_40 : decode cX2_putGuest 40 = .ok (.iload 4, 2) := by decide +kernel
theorem dX2_putGuest_42 : decode cX2_putGuest 42 = .ok (.ireturn, 1) := by decide +kernel
theorem dX2_fallBack_0 : decode cX2_fallBack 0 = .ok (.aload_n 0, 1) := by decide +kernel
theorem dX2_fallBack_1 : decode cX2_fallBack 1 = .ok (.getfield 24, 3) := by decide +kernel
theorem dX2_fallBack_4 : decode cX2_fallBack 4 = .ok (.iload_n 1, 1) := by decide +kernel
theorem dX2_fallBack_5 : decode cX2_fallBack 5 = .ok (.iload_n 2, 1) := by decide +kernel
theorem dX2_fallBack_6 : decode cX2_fallBack 6 = .ok (.iastore, 1) := by decide +kernel
theorem dX2_fallBack_7 : decode cX2_fallBack 7 = .ok (.aload_n 0, 1) := by decide +kernel
theorem dX2_fallBack_8 : decode cX2_fallBack 8 = .ok (.getfield 15, 3) := by decide +kernel
theorem dX2_fallBack_11 : decode cX2_fallBack 11 = .ok (.iload_n 1, 1) := by decide +kernel
theorem dX2_fallBack_12 : decode cX2_fallBack 12 = .ok (.bipush 20, 2) := by decide +kernel
theorem dX2_fallBack_14 : decode cX2_fallBack 14 = .ok (.aload_n 0, 1) := by decide +kernel
theorem dX2_fallBack_15 : decode cX2_fallBack 15 = .ok (.getfield 15, 3) := by decide +kernel
theorem dX2_fallBack_18 : decode cX2_fallBack 18 = .ok (.iload_n 1, 1) := by decide +kernel
theorem dX2_fallBack_19 : decode cX2_fallBack 19 = .ok (.iaload, 1) := by decide +kernel
theorem dX2_fallBack_20 : decode cX2_fallBack 20 = .ok (.iconst 1, 1) := by decide +kernel
theorem dX2_fallBack_21 : decode cX2_fallBack 21 = .ok (.iadd, 1) := by decide +kernel
theorem dX2_fallBack_22 : decode cX2_fallBack 22 = .ok (.invokestatic 31, 3) := by decide +kernel
theorem dX2_fallBack_25 : decode cX2_fallBack 25 = .ok (.iastore, 1) := by decide +kernel
theorem dX2_fallBack_26 : decode cX2_fallBack 26 = .ok (.aload_n 0, 1) := by decide +kernel
theorem dX2_fallBack_27 : decode cX2_fallBack 27 = .ok (.getfield 21, 3) := by decide +kernel
theorem dX2_fallBack_30 : decode cX2_fallBack 30 = .ok (.iload_n 1, 1) := by decide +kernel
theorem dX2_fallBack_31 : decode cX2_fallBack 31 = .ok (.iaload, 1) := by decide +kernel
theorem dX2_fallBack_32 : decode cX2_fallBack 32 = .ok (.ifCond .le 13, 3) := by decide +kernel
theorem dX2_fallBack_35 : decode cX2_fallBack 35 = .ok (.aload_n 0, 1) := by decide +kernel
theorem dX2_fallBack_36 : decode cX2_fallBack 36 = .ok (.getfield 21, 3) := by decide +kernel
theorem dX2_fallBack_39 : decode cX2_fallBack 39 = .ok (.iload_n 1, 1) := by decide +kernel
theorem dX2_fallBack_40 : decode cX2_fallBack 40 = .ok (.dup2, 1) := by decide +kernel
theorem dX2_fallBack_41 : decode cX2_fallBack 41 = .ok (.iaload, 1) := by decide +kernel
theorem dX2_fallBack_42 : decode cX2_fallBack 42 = .ok (.iconst 1, 1) := by decide +kernel
theorem dX2_fallBack_43 : decode cX2_fallBack 43 = .ok (.isub, 1) := by decide +kernel
theorem dX2_fallBack_44 : decode cX2_fallBack 44 = .ok (.iastore, 1) := by decide +kernel
theorem dX2_fallBack_45 : decode cX2_fallBack 45 = .ok (.return_, 1) := by decide +kernel
theorem dX2_copyFrom_0 : decode cX2_copyFrom 0 = .ok (.aload_n 0, 1) := by decide +kernel
theorem dX2_copyFrom_1 : decode cX2_copyFrom 1 = .ok (.aload_n 1, 1) := by decide +kernel
theorem dX2_copyFrom_2 : decode cX2_copyFrom 2 = .ok (.getfield 27, 3) := by decide +kernel
theorem dX2_copyFrom_5 : decode cX2_copyFrom 5 = .ok (.putfield 27, 3) := by decide +kernel
theorem dX2_copyFrom_8 : decode cX2_copyFrom 8 = .ok (.aload_n 1, 1) := by decide +kernel
theorem dX2_copyFrom_9 : decode cX2_copyFrom 9 = .ok (.getfield 9, 3) := by decide +kernel
theorem dX2_copyFrom_12 : decode cX2_copyFrom 12 = .ok (.iconst 0, 1) := by decide +kernel
theorem dX2_copyFrom_13 : decode cX2_copyFrom 13 = .ok (.aload_n 0, 1) := by decide +kernel
theorem dX2_copyFrom_14 : decode cX2_copyFrom 14 = .ok (.getfield 9, 3) := by decide +kernel
theorem dX2_copyFrom_17 : decode cX2_copyFrom 17 = .ok (.iconst 0, 1) := by decide +kernel
theorem dX2_copyFrom_18 : decode cX2_copyFrom 18 = .ok (.bipush 8, 2) := by decide +kernel
theorem dX2_copyFrom_20 : decode cX2_copyFrom 20 = .ok (.invokestatic 37, 3) := by decide +kernel
theorem dX2_copyFrom_23 : decode cX2_copyFrom 23 = .ok (.aload_n 1, 1) := by decide +kernel
theorem dX2_copyFrom_24 : decode cX2_copyFrom 24 = .ok (.getfield 15, 3) := by decide +kernel
theorem dX2_copyFrom_27 : decode cX2_copyFrom 27 = .ok (.iconst 0, 1) := by decide +kernel
theorem dX2_copyFrom_28 : decode cX2_copyFrom 28 = .ok (.aload_n 0, 1) := by decide +kernel
theorem dX2_copyFrom_29 : decode cX2_copyFrom 29 = .ok (.getfield 15, 3) := by decide +kernel
theorem dX2_copyFrom_32 : decode cX2_copyFrom 32 = .ok (.iconst 0, 1) := by decide +kernel
theorem dX2_copyFrom_33 : decode cX2_copyFrom 33 = .ok (.bipush 8, 2) := by decide +kernel
theorem dX2_copyFrom_35 : decode cX2_copyFrom 35 = .ok (.invokestatic 37, 3) := by decide +kernel
theorem dX2_copyFrom_38 : decode cX2_copyFrom 38 = .ok (.aload_n 1, 1) := by decide +kernel
theorem dX2_copyFrom_39 : decode cX2_copyFrom 39 = .ok (.getfield 18, 3) := by decide +kernel
theorem dX2_copyFrom_42 : decode cX2_copyFrom 42 = .ok (.iconst 0, 1) := by decide +kernel
theorem dX2_copyFrom_43 : decode cX2_copyFrom 43 = .ok (.aload_n 0, 1) := by decide +kernel
theorem dX2_copyFrom_44 : decode cX2_copyFrom 44 = .ok (.getfield 18, 3) := by decide +kernel
theorem dX2_copyFrom_47 : decode cX2_copyFrom 47 = .ok (.iconst 0, 1) := by decide +kernel
theorem dX2_copyFrom_48 : decode cX2_copyFrom 48 = .ok (.bipush 8, 2) := by decide +kernel
theorem dX2_copyFrom_50 : decode cX2_copyFrom 50 = .ok (.invokestatic 37, 3) := by decide +kernel
theorem dX2_copyFrom_53 : decode cX2_copyFrom 53 = .ok (.aload_n 1, 1) := by decide +kernel
theorem dX2_copyFrom_54 : decode cX2_copyFrom 54 = .ok (.getfield 21, 3) := by decide +kernel
theorem dX2_copyFrom_57 : decode cX2_copyFrom 57 = .ok (.iconst 0, 1) := by decide +kernel
theorem dX2_copyFrom_58 : decode cX2_copyFrom 58 = .ok (.aload_n 0, 1) := by decide +kernel
theorem dX2_copyFrom_59 : decode cX2_copyFrom 59 = .ok (.getfield 21, 3) := by decide +kernel
theorem dX2_copyFrom_62 : decode cX2_copyFrom 62 = .ok (.iconst 0, 1) := by decide +kernel
theorem dX2_copyFrom_63 : decode cX2_copyFrom 63 = .ok (.bipush 8, 2) := by decide +kernel
theorem dX2_copyFrom_65 : decode cX2_copyFrom 65 = .ok (.invokestatic 37, 3) := by decide +kernel
theorem dX2_copyFrom_68 : decode cX2_copyFrom 68 = .ok (.aload_n 1, 1) := by decide +kernel
theorem dX2_copyFrom_69 : decode cX2_copyFrom 69 = .ok (.getfield 24, 3) := by decide +kernel
theorem dX2_copyFrom_72 : decode cX2_copyFrom 72 = .ok (.iconst 0, 1) := by decide +kernel
theorem dX2_copyFrom_73 : decode cX2_copyFrom 73 = .ok (.aload_n 0, 1) := by decide +kernel
theorem dX2_copyFrom_74 : decode cX2_copyFrom 74 = .ok (.getfield 24, 3) := by decide +kernel
theorem dX2_copyFrom_77 : decode cX2_copyFrom 77 = .ok (.iconst 0, 1) := by decide +kernel
theorem dX2_copyFrom_78 : decode cX2_copyFrom 78 = .ok (.bipush 8, 2) := by decide +kernel
theorem dX2_copyFrom_80 : decode cX2_copyFrom 80 = .ok (.invokestatic 37, 3) := by decide +kernel
theorem dX2_copyFrom_83 : decode cX2_copyFrom 83 = .ok (.return_, 1) := by decide +kernel
end
section
/-! the rows of this claim's own: numbers as naturals, calls that change nothing, calls that change their own cells -/
def setF (S : Nat → Nat → Nat) (f : Nat) (g : Nat → Nat) : Nat → Nat → Nat := fun a => if a = f then g else S a
def updN (g : Nat → Nat) (k v : Nat) : Nat → Nat := fun j => if j = k then v else g j
abbrev setf (S : Nat → Nat → Nat) (f k v : Nat) : Nat → Nat → Nat := setF S f (updN (S f) k v)
def row (g : Nat → Nat) : Nat → Int32 := fun j => nI (g j)
/-- the Int32 of a truth -/
abbrev bI (b : Prop) [Decidable b] : Int32 := if b then 1 else 0
theorem row_upd (g : Nat → Nat) (k v : Nat) : upd (row g) k (nI v) = row (updN g k v) := by
  funext j
  by_cases h : j = k <;> simp [upd, row, updN, h]
theorem setF_ne (S : Nat → Nat → Nat) {f a : Nat} (g : Nat → Nat) (h : a ≠ f) : setF S f g a = S a := by simp [setF, h]
theorem setF_self (S : Nat → Nat → Nat) (f : Nat) (g : Nat → Nat) : setF S f g f = g := by simp [setF]
def va_B (w : va_W) : Nat → Prop := fun q => ∃ (k : Nat) (e : va_E), w[k]? = some (q, e)
theorem D_re {A : Nat → Prop} {ws ws' : va_W} (hD : va_D A ws) (h : ws'.map (·.1) = ws.map (·.1)) : va_D A ws' := by
  have at' : ∀ (k : Nat) (q : Nat × va_E), ws'[k]? = some q → ∃ q2, ws[k]? = some q2 ∧ q2.1 = q.1 := by
    intro k q hq
    have h1 : (ws'.map (·.1))[k]? = some q.1 := by rw [List.getElem?_map, hq]; rfl
    rw [h, List.getElem?_map] at h1
    cases h2 : ws[k]? with
    | none => rw [h2] at h1; cases h1
    | some q2 => rw [h2] at h1; exact ⟨q2, rfl, Option.some.inj h1⟩
  refine ⟨fun i j p q hp hq e => ?_, fun k q hq => ?_⟩
  · obtain ⟨p2, h1, e1⟩ := at' i p hp
    obtain ⟨q2, h2, e2⟩ := at' j q hq
    exact hD.1 i j p2 q2 h1 h2 (by rw [e1, e2, e])
  · obtain ⟨q2, h1, e1⟩ := at' k q hq
    have := hD.2 k q2 h1
    rw [e1] at this
    exact this
/-- the cells at the places is are put anew -/
def mset : va_W → List Nat → va_W → va_W
  | w, i :: is, x :: xs => mset (w.set i x) is xs
  | w, _, _ => w
theorem mset_at : ∀ (is : List Nat) (xs w : va_W) (k : Nat) (q : Nat × va_E), is.length = xs.length → (mset w is xs)[k]? = some q → (k ∉ is ∧ w[k]? = some q) ∨ ∃ j : Nat, xs[j]? = some q
  | [], [], w, k, q, _, h => Or.inl ⟨List.not_mem_nil, h⟩
  | i :: is, x :: xs, w, k, q, hl, h => by
    rcases mset_at is xs (w.set i x) k q (by simpa using hl) h with ⟨h1, h2⟩ | ⟨j, hj⟩
    · by_cases hk : i = k
      · subst hk
        rw [List.getElem?_set_self'] at h2
        cases hw : w[i]? with
        | none => rw [hw] at h2; cases h2
        | some y => rw [hw] at h2; exact Or.inr ⟨0, h2⟩
      · rw [List.getElem?_set_ne hk] at h2
        exact Or.inl ⟨fun hm => (List.mem_cons.mp hm).elim (fun e => hk e.symm) h1, h2⟩
    · exact Or.inr ⟨j + 1, hj⟩
theorem map_at {is : List Nat} {ws w : va_W} (hs : is.map (fun i => ws[i]?) = w.map some) (k : Nat) (q : Nat × va_E) (hq : w[k]? = some q) : ∃ i, is[k]? = some i ∧ ws[i]? = some q := by
  have h1 : (is.map (fun i => ws[i]?))[k]? = some (some q) := by rw [hs, List.getElem?_map, hq]; rfl
  rw [List.getElem?_map] at h1
  cases hi : is[k]? with
  | none => rw [hi] at h1; cases h1
  | some i => rw [hi] at h1; exact ⟨i, rfl, Option.some.inj h1⟩
theorem sub_at {D : va_G} {cl : List vw_C} {ws wc : va_W} {H : Heap} (hP : va_P D cl ws H) (is : List Nat) (hC : is.map (fun i => ws[i]?) = wc.map some) : va_P D cl wc H := fun k q hq => by
  obtain ⟨i, -, h⟩ := map_at hC k q hq
  exact hP i q h
theorem subD_at {A : Nat → Prop} {ws wc : va_W} (hD : va_D A ws) (is : List Nat) (hn : va_nd is = true) (hC : is.map (fun i => ws[i]?) = wc.map some) : va_D A wc := hD.sub is hn hC
theorem keep_P {D : va_G} {cl : List vw_C} {ws : va_W} {H H1 : Heap} (hP : va_P D cl ws H) (hk : ∀ q : Nat, q < H.size → ¬ False → H1[q]? = H[q]?) : va_P D cl ws H1 := hP.kept (fun k q hq => hk q.1 ((hP k q hq).lt) (fun h => h))
theorem mjoin {A0 : Nat → Prop} {D : va_G} {cl : List vw_C} {ws wc w1 : va_W} {H H1 : Heap} (hP : va_P D cl ws H) (hD : va_D A0 ws) (isC : List Nat) (hC : isC.map (fun i => ws[i]?) = wc.map some) (hl : isC.length = w1.length)
    (hk : ∀ q : Nat, q < H.size → ¬ va_B wc q → H1[q]? = H[q]?) (hP1 : va_P D cl w1 H1) : va_P D cl (mset ws isC w1) H1 := by
  intro k q hq
  rcases mset_at isC w1 ws k q hl hq with ⟨h1, h2⟩ | ⟨j, hj⟩
  · refine (hP k q h2).kept (hk q.1 (hP k q h2).lt ?_)
    rintro ⟨k2, e, h⟩
    obtain ⟨i, h3, h4⟩ := map_at hC k2 (q.1, e) h
    have := hD.1 k i q (q.1, e) h2 h4 rfl
    subst this
    exact h1 (List.mem_of_getElem? h3)
  · exact hP1 j q hj
theorem B_in {A0 : Nat → Prop} {ws wc : va_W} (hD : va_D A0 ws) (isC : List Nat) (hC : isC.map (fun i => ws[i]?) = wc.map some) : ∀ q, va_B wc q → A0 q := by
  rintro q ⟨k, e, h⟩
  obtain ⟨i, -, h2⟩ := map_at hC k (q, e) h
  exact hD.2 i (q, e) h2
theorem D_B {A : Nat → Prop} {w : va_W} (h : va_D A w) : va_D (va_B w) w := ⟨h.1, fun k q hq => ⟨k, q.2, hq⟩⟩
theorem fin1 {b : Prop} [Decidable b] (h : b) : nI 1 = bI b := by show nI 1 = (if b then 1 else 0); rw [if_pos h]; rfl
theorem fin0 {b : Prop} [Decidable b] (h : ¬ b) : nI 0 = bI b := by show nI 0 = (if b then 1 else 0); rw [if_neg h]; rfl
theorem setf_same (S : Nat → Nat → Nat) (f k v : Nat) (h : S f k = v) : setf S f k v = S := by
  funext a j
  by_cases ha : a = f
  · subst ha
    by_cases hj : j = k
    · subst hj; simp [setF, updN, h]
    · simp [setF, updN, hj]
  · simp [setF, ha]
/-! contracts -/
/-- what a state's tables say: the classes, and one private call between nest mates -/
def KK (D : va_G) (tys : List (ClassId × FieldType)) (U : State) : Prop := va_K D vwCl tys U ∧ va_Nw (.methodLinkNest RX0 117 yX3_gradeOfHiss "GooseCodex") U
theorem KK.moved {D : va_G} {tys : List (ClassId × FieldType)} {s U : State} (hW : s.WarmedH U.vm) (h : KK D tys s) : KK D tys U := ⟨va_K.moved hW.alike h.1, va_Nw.warmM hW h.2⟩
theorem KK.call {D : va_G} {tys : List (ClassId × FieldType)} {U : State} {g : JFrame} {mk : MethodId} {a : Array Value} (h : KK D tys U) : KK D tys (U.calling g mk a) := ⟨va_K.moved (u := U) (U := U.calling g mk a) (Vm.Alike.refl U.vm) h.1, va_Nw.same (u := U) (U := U.calling g mk a) rfl rfl h.2⟩
abbrev rmN (fr lo : Nat) : Room := { frames := fr, cells := 0, slots := 0, locals := lo }
/-- y answers v, and changes nothing -/
def PI (l : Launch) (y : MethodName) (ws : List Cond) (fr lo : Nat) (D : va_G) (tys : List (ClassId × FieldType)) (av : List Value) (w : va_W) (v : Int32) : Prop :=
  Met l y ws (rmN fr lo) (va_Pc av (fun U => va_P D vwCl w U.heap ∧ KK D tys U)) (va_Qi (fun r (_ : Unit) => r = v) (fun _ _ => True) (fun _ => False)) 0 0 (fun _ => False)
def PL (l : Launch) (y : MethodName) (ws : List Cond) (fr lo : Nat) (D : va_G) (tys : List (ClassId × FieldType)) (av : List Value) (w : va_W) (v : Int64) : Prop :=
  Met l y ws (rmN fr lo) (va_Pc av (fun U => va_P D vwCl w U.heap ∧ KK D tys U)) (va_Ql (fun r (_ : Unit) => r = v) (fun _ _ => True) (fun _ => False)) 0 0 (fun _ => False)
def PD (l : Launch) (y : MethodName) (ws : List Cond) (fr lo : Nat) (D : va_G) (tys : List (ClassId × FieldType)) (av : List Value) (w : va_W) (v : UInt64) : Prop :=
  Met l y ws (rmN fr lo) (va_Pc av (fun U => va_P D vwCl w U.heap ∧ KK D tys U)) (va_Qd (fun r (_ : Unit) => r = v) (fun _ _ => True) (fun _ => False)) 0 0 (fun _ => False)
/-- y answers v, and its cells w are w1 then -/
def MI (l : Launch) (y : MethodName) (ws : List Cond) (fr lo : Nat) (D : va_G) (tys : List (ClassId × FieldType)) (av : List Value) (w w1 : va_W) (v : Int32) : Prop :=
  Met l y ws (rmN fr lo) (va_Pc av (fun U => va_P D vwCl w U.heap ∧ KK D tys U ∧ va_D (fun _ => True) w)) (va_Qi (fun r (_ : Unit) => r = v) (fun _ t => va_P D vwCl w1 t.heap) (va_B w)) 0 0 (va_B w)
def MD (l : Launch) (y : MethodName) (ws : List Cond) (fr lo : Nat) (D : va_G) (tys : List (ClassId × FieldType)) (av : List Value) (w w1 : va_W) (v : UInt64) : Prop :=
  Met l y ws (rmN fr lo) (va_Pc av (fun U => va_P D vwCl w U.heap ∧ KK D tys U ∧ va_D (fun _ => True) w)) (va_Qd (fun r (_ : Unit) => r = v) (fun _ t => va_P D vwCl w1 t.heap) (va_B w)) 0 0 (va_B w)
def MV (l : Launch) (y : MethodName) (ws : List Cond) (fr lo : Nat) (D : va_G) (tys : List (ClassId × FieldType)) (av : List Value) (w w1 : va_W) : Prop :=
  Met l y ws (rmN fr lo) (va_Pc av (fun U => va_P D vwCl w U.heap ∧ KK D tys U ∧ va_D (fun _ => True) w)) (va_Qv (fun _ : Unit => True) (fun _ t => va_P D vwCl w1 t.heap) (va_B w)) 0 0 (va_B w)
section
variable {l : Launch} {y : MethodName} {ws ws' : List Cond} {fr lo : Nat} {D : va_G} {tys : List (ClassId × FieldType)} {av : List Value} {w w1 : va_W} {cc : ByteArray} {maxL : Nat} {ret : Option FieldType} {Qc : Array Value → State → Outcome → State → Prop} {free : Addr → Prop}
theorem k_bodyP (hy : plainName y.cls = true) (hw : ws = Cond.code y cc maxL ret :: ws') (hav : (lg_sl av).length ≤ maxL)
    (body : ∀ p e s m args below meth c H ls, CallFix p m c cc maxL s args ws y.cls → meth.sig.returnType = ret → meth.locks = false → lv_has ls maxL (lv_args 0 av) → va_P D vwCl w H → KK D tys s → va_S (fun _ => False) s.heap H [] →
      W p l e (rmN fr lo) s m args below meth c H [] 0 0 (MQ below Qc args s 0 0 free) (F0 m 0 ls [])) :
    Met l y ws (rmN fr lo) (va_Pc av (fun U => va_P D vwCl w U.heap ∧ KK D tys U)) Qc 0 0 free := by
  refine Met.ofW (cc := cc) (maxL := maxL) (ret := ret) hy hw ?_
  intro p e s m args below meth c s₁ B hml hv
  obtain ⟨rfl, hP, hK⟩ := hv
  have hl := lv_entry av (n := maxL) hav
  rw [lg_entry_eq]
  exact body p e s m _ below meth c s.heap _ ⟨B.exec, B.bytes, hml, findClass_of_methodNamed B.named, atoms_spec (ws := ws) B.pre⟩ B.returns B.notSynchronized hl hP hK va_S.rf
theorem k_bodyM (hy : plainName y.cls = true) (hw : ws = Cond.code y cc maxL ret :: ws') (hav : (lg_sl av).length ≤ maxL)
    (body : ∀ p e s m args below meth c H ls, CallFix p m c cc maxL s args ws y.cls → meth.sig.returnType = ret → meth.locks = false → lv_has ls maxL (lv_args 0 av) → va_P D vwCl w H → KK D tys s → va_D (va_B w) w → va_S (va_B w) s.heap H [] →
      W p l e (rmN fr lo) s m args below meth c H [] 0 0 (MQ below Qc args s 0 0 free) (F0 m 0 ls [])) :
    Met l y ws (rmN fr lo) (va_Pc av (fun U => va_P D vwCl w U.heap ∧ KK D tys U ∧ va_D (fun _ => True) w)) Qc 0 0 free := by
  refine Met.ofW (cc := cc) (maxL := maxL) (ret := ret) hy hw ?_
  intro p e s m args below meth c s₁ B hml hv
  obtain ⟨rfl, hP, hK, hD⟩ := hv
  have hl := lv_entry av (n := maxL) hav
  rw [lg_entry_eq]
  exact body p e s m _ below meth c s.heap _ ⟨B.exec, B.bytes, hml, findClass_of_methodNamed B.named, atoms_spec (ws := ws) B.pre⟩ B.returns B.notSynchronized hl hP hK (D_B hD) va_S.rf
theorem blindP : FrameBlind (va_Pc av (fun U => va_P D vwCl w U.heap ∧ KK D tys U)) := fun a U g mk q => ⟨q.1, q.2.1, KK.call q.2.2⟩
theorem blindM : FrameBlind (va_Pc av (fun U => va_P D vwCl w U.heap ∧ KK D tys U ∧ va_D (fun _ => True) w)) := fun a U g mk q => ⟨q.1, q.2.1, KK.call q.2.2.1, q.2.2.2⟩
end
section
variable {p : Program} {l : Launch} {e : Env} {R : Room} {s : State} {m : MethodId} {args : Array Value} {below : List Frame} {meth : Method} {c : Code} {H : Heap} {locs : List Loc} {cells slots : Nat} {Q : State → Prop}
variable {cc : ByteArray} {pc nL : Nat} {ls : Array Slot} {rest st0 : List Value} {D : va_G} {cl : List vw_C} {A A0 : Nat → Prop} {a : Nat} {tys tysC : List (ClassId × FieldType)} {w wc w1 : va_W} {H0 : Heap} {Ts : List Cond} {own : String}
/-! numbers -/
theorem k_iadd (S : CallFix p m c cc nL s args Ts own) {x y : Nat} (hdg : decode cc pc = .ok (.iadd, 1)) (k : W p l e R s m args below meth c H locs cells slots Q (F0 m (pc + 1) ls (.int (nI (x + y)) :: rest))) : W p l e R s m args below meth c H locs cells slots Q (F0 m pc ls (.int (nI y) :: .int (nI x) :: rest)) := lv_iadd S.1 S.2.1 hdg (by rw [nI_add]; exact k)
theorem k_isub (S : CallFix p m c cc nL s args Ts own) {x y : Nat} (h : y ≤ x) (hdg : decode cc pc = .ok (.isub, 1)) (k : W p l e R s m args below meth c H locs cells slots Q (F0 m (pc + 1) ls (.int (nI (x - y)) :: rest))) : W p l e R s m args below meth c H locs cells slots Q (F0 m pc ls (.int (nI y) :: .int (nI x) :: rest)) := lv_isub S.1 S.2.1 hdg (by rw [pk_sub h]; exact k)
theorem k_imul (S : CallFix p m c cc nL s args Ts own) {x y : Nat} (hdg : decode cc pc = .ok (.imul, 1)) (k : W p l e R s m args below meth c H locs cells slots Q (F0 m (pc + 1) ls (.int (nI (x * y)) :: rest))) : W p l e R s m args below meth c H locs cells slots Q (F0 m pc ls (.int (nI y) :: .int (nI x) :: rest)) := lv_imul S.1 S.2.1 hdg (by rw [pk_mul]; exact k)
theorem k_inc (S : CallFix p m c cc nL s args Ts own) {i k x : Nat} {lv lv' : List (Nat × Value)} (hdg : decode cc pc = .ok (.iinc i 1, 3)) (h : lv_has ls nL lv) (hk : lv[k]? = some (i, .int (nI x))) (hn : i < nL) (hl : (i, Value.int (nI (x + 1))) :: lv.filter (fun q => !(q.1 == i) && !(q.1 + 1 == i && q.2.category == 2)) = lv')
    (kk : ∀ ls' : Array Slot, lv_has ls' nL lv' → W p l e R s m args below meth c H locs cells slots Q (F0 m (pc + 3) ls' rest)) : W p l e R s m args below meth c H locs cells slots Q (F0 m pc ls rest) := lv_iinc S.1 S.2.1 hdg h hk (nI_1 x) hn hl kk
theorem k_dec (S : CallFix p m c cc nL s args Ts own) {i k x : Nat} {lv lv' : List (Nat × Value)} (h0 : 0 < x) (hdg : decode cc pc = .ok (.iinc i (-1), 3)) (h : lv_has ls nL lv) (hk : lv[k]? = some (i, .int (nI x))) (hn : i < nL) (hl : (i, Value.int (nI (x - 1))) :: lv.filter (fun q => !(q.1 == i) && !(q.1 + 1 == i && q.2.category == 2)) = lv')
    (kk : ∀ ls' : Array Slot, lv_has ls' nL lv' → W p l e R s m args below meth c H locs cells slots Q (F0 m (pc + 3) ls' rest)) : W p l e R s m args below meth c H locs cells slots Q (F0 m pc ls rest) := lv_iinc S.1 S.2.1 hdg h hk (by have e := pk_m1 (x - 1); rw [Nat.sub_add_cancel h0] at e; exact e) hn hl kk
theorem k_icmp_lt (S : CallFix p m c cc nL s args Ts own) {x y tgt : Nat} {off : Int} (hx : x < 2 ^ 31) (hy : y < 2 ^ 31) (hdg : decode cc pc = .ok (.if_icmp .lt off, 3)) (ht : (pc : Int) + off = (tgt : Int))
    (kt : x < y → W p l e R s m args below meth c H locs cells slots Q (F0 m tgt ls rest)) (kf : ¬ x < y → W p l e R s m args below meth c H locs cells slots Q (F0 m (pc + 3) ls rest)) : W p l e R s m args below meth c H locs cells slots Q (F0 m pc ls (.int (nI y) :: .int (nI x) :: rest)) :=
  lv_icmp_lt S.1 S.2.1 hdg ht (fun h => kt ((nI_ltI hx hy).mp h)) (fun h => kf (fun q => h ((nI_ltI hx hy).mpr q)))
theorem k_icmp_ge (S : CallFix p m c cc nL s args Ts own) {x y tgt : Nat} {off : Int} (hx : x < 2 ^ 31) (hy : y < 2 ^ 31) (hdg : decode cc pc = .ok (.if_icmp .ge off, 3)) (ht : (pc : Int) + off = (tgt : Int))
    (kt : y ≤ x → W p l e R s m args below meth c H locs cells slots Q (F0 m tgt ls rest)) (kf : ¬ y ≤ x → W p l e R s m args below meth c H locs cells slots Q (F0 m (pc + 3) ls rest)) : W p l e R s m args below meth c H locs cells slots Q (F0 m pc ls (.int (nI y) :: .int (nI x) :: rest)) :=
  lv_icmp_ge S.1 S.2.1 hdg ht (fun h => kt ((nI_leI hy hx).mp h)) (fun h => kf (fun q => h ((nI_leI hy hx).mpr q)))
theorem k_icmp_gt (S : CallFix p m c cc nL s args Ts own) {x y tgt : Nat} {off : Int} (hx : x < 2 ^ 31) (hy : y < 2 ^ 31) (hdg : decode cc pc = .ok (.if_icmp .gt off, 3)) (ht : (pc : Int) + off = (tgt : Int))
    (kt : y < x → W p l e R s m args below meth c H locs cells slots Q (F0 m tgt ls rest)) (kf : ¬ y < x → W p l e R s m args below meth c H locs cells slots Q (F0 m (pc + 3) ls rest)) : W p l e R s m args below meth c H locs cells slots Q (F0 m pc ls (.int (nI y) :: .int (nI x) :: rest)) :=
  lv_icmp_gt S.1 S.2.1 hdg ht (fun h => kt ((nI_ltI hy hx).mp h)) (fun h => kf (fun q => h ((nI_ltI hy hx).mpr q)))
theorem k_icmp_le (S : CallFix p m c cc nL s args Ts own) {x y tgt : Nat} {off : Int} (hx : x < 2 ^ 31) (hy : y < 2 ^ 31) (hdg : decode cc pc = .ok (.if_icmp .le off, 3)) (ht : (pc : Int) + off = (tgt : Int))
    (kt : x ≤ y → W p l e R s m args below meth c H locs cells slots Q (F0 m tgt ls rest)) (kf : ¬ x ≤ y → W p l e R s m args below meth c H locs cells slots Q (F0 m (pc + 3) ls rest)) : W p l e R s m args below meth c H locs cells slots Q (F0 m pc ls (.int (nI y) :: .int (nI x) :: rest)) :=
  lv_icmp_le S.1 S.2.1 hdg ht (fun h => kt ((nI_leI hx hy).mp h)) (fun h => kf (fun q => h ((nI_leI hx hy).mpr q)))
theorem k_icmp_eq (S : CallFix p m c cc nL s args Ts own) {x y tgt : Nat} {off : Int} (hx : x < 2 ^ 31) (hy : y < 2 ^ 31) (hdg : decode cc pc = .ok (.if_icmp .eq off, 3)) (ht : (pc : Int) + off = (tgt : Int))
    (kt : x = y → W p l e R s m args below meth c H locs cells slots Q (F0 m tgt ls rest)) (kf : ¬ x = y → W p l e R s m args below meth c H locs cells slots Q (F0 m (pc + 3) ls rest)) : W p l e R s m args below meth c H locs cells slots Q (F0 m pc ls (.int (nI y) :: .int (nI x) :: rest)) :=
  lv_icmp_eq S.1 S.2.1 hdg ht (fun h => kt ((nI_eq hx hy).mp h)) (fun h => kf (fun q => h ((nI_eq hx hy).mpr q)))
theorem k_icmp_ne (S : CallFix p m c cc nL s args Ts own) {x y tgt : Nat} {off : Int} (hx : x < 2 ^ 31) (hy : y < 2 ^ 31) (hdg : decode cc pc = .ok (.if_icmp .ne off, 3)) (ht : (pc : Int) + off = (tgt : Int))
    (kt : ¬ x = y → W p l e R s m args below meth c H locs cells slots Q (F0 m tgt ls rest)) (kf : x = y → W p l e R s m args below meth c H locs cells slots Q (F0 m (pc + 3) ls rest)) : W p l e R s m args below meth c H locs cells slots Q (F0 m pc ls (.int (nI y) :: .int (nI x) :: rest)) :=
  lv_icmp_ne S.1 S.2.1 hdg ht (fun h => kt (fun q => h ((nI_eq hx hy).mpr q))) (fun h => kf ((nI_eq hx hy).mp h))
theorem k_if_eq (S : CallFix p m c cc nL s args Ts own) {x tgt : Nat} {off : Int} (hx : x < 2 ^ 31) (hdg : decode cc pc = .ok (.ifCond .eq off, 3)) (ht : (pc : Int) + off = (tgt : Int))
    (kt : x = 0 → W p l e R s m args below meth c H locs cells slots Q (F0 m tgt ls rest)) (kf : ¬ x = 0 → W p l e R s m args below meth c H locs cells slots Q (F0 m (pc + 3) ls rest)) : W p l e R s m args below meth c H locs cells slots Q (F0 m pc ls (.int (nI x) :: rest)) :=
  lv_if_eq S.1 S.2.1 hdg ht (fun h => kt ((nI_eq hx (b := 0) (by decide)).mp h)) (fun h => kf (fun q => h ((nI_eq hx (b := 0) (by decide)).mpr q)))
theorem k_if_ne (S : CallFix p m c cc nL s args Ts own) {x tgt : Nat} {off : Int} (hx : x < 2 ^ 31) (hdg : decode cc pc = .ok (.ifCond .ne off, 3)) (ht : (pc : Int) + off = (tgt : Int))
    (kt : ¬ x = 0 → W p l e R s m args below meth c H locs cells slots Q (F0 m tgt ls rest)) (kf : x = 0 → W p l e R s m args below meth c H locs cells slots Q (F0 m (pc + 3) ls rest)) : W p l e R s m args below meth c H locs cells slots Q (F0 m pc ls (.int (nI x) :: rest)) :=
  lv_if_ne S.1 S.2.1 hdg ht (fun h => kt (fun q => h ((nI_eq hx (b := 0) (by decide)).mpr q))) (fun h => kf ((nI_eq hx (b := 0) (by decide)).mp h))
theorem k_if_le (S : CallFix p m c cc nL s args Ts own) {x tgt : Nat} {off : Int} (hx : x < 2 ^ 31) (hdg : decode cc pc = .ok (.ifCond .le off, 3)) (ht : (pc : Int) + off = (tgt : Int))
    (kt : x = 0 → W p l e R s m args below meth c H locs cells slots Q (F0 m tgt ls rest)) (kf : 0 < x → W p l e R s m args below meth c H locs cells slots Q (F0 m (pc + 3) ls rest)) : W p l e R s m args below meth c H locs cells slots Q (F0 m pc ls (.int (nI x) :: rest)) :=
  lv_if_le S.1 S.2.1 hdg ht (fun h => kt (Nat.le_zero.mp ((nI_leI hx (b := 0) (by decide)).mp h))) (fun h => kf (Nat.pos_of_ne_zero fun q => h ((nI_leI hx (b := 0) (by decide)).mpr (by omega))))
theorem k_if_gt (S : CallFix p m c cc nL s args Ts own) {x tgt : Nat} {off : Int} (hx : x < 2 ^ 31) (hdg : decode cc pc = .ok (.ifCond .gt off, 3)) (ht : (pc : Int) + off = (tgt : Int))
    (kt : 0 < x → W p l e R s m args below meth c H locs cells slots Q (F0 m tgt ls rest)) (kf : x = 0 → W p l e R s m args below meth c H locs cells slots Q (F0 m (pc + 3) ls rest)) : W p l e R s m args below meth c H locs cells slots Q (F0 m pc ls (.int (nI x) :: rest)) :=
  lv_if_gt S.1 S.2.1 hdg ht (fun h => kt ((nI_ltI (a := 0) (by decide) hx).mp h)) (fun h => kf (by have : ¬ 0 < x := fun q => h ((nI_ltI (a := 0) (by decide) hx).mpr q)
                                                                                                   omega))
/-- a truth, asked -/
theorem k_ifeq_b (S : CallFix p m c cc nL s args Ts own) {tgt : Nat} {off : Int} {b : Prop} {db : Decidable b} (hdg : decode cc pc = .ok (.ifCond .eq off, 3)) (ht : (pc : Int) + off = (tgt : Int))
    (kt : ¬ b → W p l e R s m args below meth c H locs cells slots Q (F0 m tgt ls rest)) (kf : b → W p l e R s m args below meth c H locs cells slots Q (F0 m (pc + 3) ls rest)) : W p l e R s m args below meth c H locs cells slots Q (F0 m pc ls (.int (@ite Int32 b db 1 0) :: rest)) := by
  by_cases h : b
  · rw [if_pos h]; exact lv_if_eq S.1 S.2.1 hdg ht (fun q => absurd q (by decide)) (fun _ => kf h)
  · rw [if_neg h]; exact lv_if_eq S.1 S.2.1 hdg ht (fun _ => kt h) (fun q => absurd rfl q)
theorem k_ifne_b (S : CallFix p m c cc nL s args Ts own) {tgt : Nat} {off : Int} {b : Prop} {db : Decidable b} (hdg : decode cc pc = .ok (.ifCond .ne off, 3)) (ht : (pc : Int) + off = (tgt : Int))
    (kt : b → W p l e R s m args below meth c H locs cells slots Q (F0 m tgt ls rest)) (kf : ¬ b → W p l e R s m args below meth c H locs cells slots Q (F0 m (pc + 3) ls rest)) : W p l e R s m args below meth c H locs cells slots Q (F0 m pc ls (.int (@ite Int32 b db 1 0) :: rest)) := by
  by_cases h : b
  · rw [if_pos h]; exact lv_if_ne S.1 S.2.1 hdg ht (fun _ => kt h) (fun q => absurd q (by decide))
  · rw [if_neg h]; exact lv_if_ne S.1 S.2.1 hdg ht (fun q => absurd rfl q) (fun _ => kf h)
theorem k_max (S : CallFix p m c cc nL s args Ts own) (hsize : ls.size = nL) {index : Nat} (m1 : Cond.methodLink own index Lib.Math.max.name ∈ Ts) (m2 : Cond.static Lib.Math.max.name ∈ Ts) (m3 : Cond.initialized "java/lang/Math" ∈ Ts) (m4 : Cond.code Lib.Math.max.name Lib.Math.max.code 2 (some .int) ∈ Ts) (hfr : 1 ≤ R.frames) (hlo : (rest.map fun v => v.category).sum + 13 ≤ R.locals) (hf : cells ≤ R.cells ∧ slots ≤ R.slots) {x y : Nat} (hx : x < 2 ^ 31) (hy : y < 2 ^ 31) (hdg : decode cc pc = .ok (.invokestatic index, 3))
    (kk : W p l e R s m args below meth c H locs cells slots Q (F0 m (pc + 3) ls (.int (nI (max x y)) :: rest))) : W p l e R s m args below meth c H locs cells slots Q (F0 m pc ls (.int (nI y) :: .int (nI x) :: rest)) := by
  refine va_mmax S.1 S.2.1 (S.2.2.1.trans hsize.symm) S.2.2.2.1 (S.2.2.2.2 _ m1) (S.2.2.2.2 _ m2) (S.2.2.2.2 _ m3) (S.2.2.2.2 _ m4) hfr hlo hf.1 hf.2 hdg ?_
  have e : (if nI x < nI y then nI y else nI x) = nI (max x y) := by
    by_cases h : x < y
    · rw [if_pos ((nI_ltI hx hy).mpr h)]; congr 1; omega
    · rw [if_neg (fun q => h ((nI_ltI hx hy).mp q))]; congr 1; omega
  rw [e]; exact kk
theorem k_min (S : CallFix p m c cc nL s args Ts own) (hsize : ls.size = nL) {index : Nat} (m1 : Cond.methodLink own index Lib.Math.min.name ∈ Ts) (m2 : Cond.static Lib.Math.min.name ∈ Ts) (m3 : Cond.initialized "java/lang/Math" ∈ Ts) (m4 : Cond.code Lib.Math.min.name Lib.Math.min.code 2 (some .int) ∈ Ts) (hfr : 1 ≤ R.frames) (hlo : (rest.map fun v => v.category).sum + 13 ≤ R.locals) (hf : cells ≤ R.cells ∧ slots ≤ R.slots) {x y : Nat} (hx : x < 2 ^ 31) (hy : y < 2 ^ 31) (hdg : decode cc pc = .ok (.invokestatic index, 3))
    (kk : W p l e R s m args below meth c H locs cells slots Q (F0 m (pc + 3) ls (.int (nI (min x y)) :: rest))) : W p l e R s m args below meth c H locs cells slots Q (F0 m pc ls (.int (nI y) :: .int (nI x) :: rest)) := by
  refine va_mmin S.1 S.2.1 (S.2.2.1.trans hsize.symm) S.2.2.2.1 (S.2.2.2.2 _ m1) (S.2.2.2.2 _ m2) (S.2.2.2.2 _ m3) (S.2.2.2.2 _ m4) hfr hlo hf.1 hf.2 hdg ?_
  have e : (if nI y < nI x then nI y else nI x) = nI (min x y) := by
    by_cases h : y < x
    · rw [if_pos ((nI_ltI hy hx).mpr h)]; congr 1; omega
    · rw [if_neg (fun q => h ((nI_ltI hy hx).mp q))]; congr 1; omega
  rw [e]; exact kk
theorem k_max0 (S : CallFix p m c cc nL s args Ts own) (hsize : ls.size = nL) {index : Nat} (m1 : Cond.methodLink own index Lib.Math.max.name ∈ Ts) (m2 : Cond.static Lib.Math.max.name ∈ Ts) (m3 : Cond.initialized "java/lang/Math" ∈ Ts) (m4 : Cond.code Lib.Math.max.name Lib.Math.max.code 2 (some .int) ∈ Ts) (hfr : 1 ≤ R.frames) (hlo : (rest.map fun v => v.category).sum + 13 ≤ R.locals) (hf : cells ≤ R.cells ∧ slots ≤ R.slots) {x y z : Nat} (hz : z ≤ 1) (hx : x < 2 ^ 30) (hy : y < 2 ^ 30) (hdg : decode cc pc = .ok (.invokestatic index, 3))
    (kk : W p l e R s m args below meth c H locs cells slots Q (F0 m (pc + 3) ls (.int (nI (max z (x - y))) :: rest))) : W p l e R s m args below meth c H locs cells slots Q (F0 m pc ls (.int (nI x - nI y) :: .int (nI z) :: rest)) := by
  by_cases h : y ≤ x
  · rw [pk_sub h]
    exact k_max S hsize m1 m2 m3 m4 hfr hlo hf (by omega) (by omega) hdg kk
  · refine va_mmax S.1 S.2.1 (S.2.2.1.trans hsize.symm) S.2.2.2.1 (S.2.2.2.2 _ m1) (S.2.2.2.2 _ m2) (S.2.2.2.2 _ m3) (S.2.2.2.2 _ m4) hfr hlo hf.1 hf.2 hdg ?_
    have h1 : nI x - nI y < 0 := pk_sneg hy (by omega)
    have h2 : ¬ nI z < nI x - nI y := by
      intro q
      have h3 : nI z < nI 0 := Int32.lt_trans q h1
      have := (nI_ltI (by omega) (by decide)).mp h3
      omega
    rw [if_neg h2]
    have e : max z (x - y) = z := by omega
    rw [e] at kk
    exact kk
/-! cells -/
theorem k_iald (S : CallFix p m c cc nL s args Ts own) (hK : va_K D cl tys s) (hP : va_P D cl w H) (q0 t0 : Nat) {cA : ClassId} {n k : Nat} {f : Nat → Nat} (ha : w[q0]? = some (a, .inl (cA, n, .inl (row f)))) (ht : tys[t0]? = some (cA, .int)) (hk : k < n) (hn : n < 2 ^ 31) (hdg : decode cc pc = .ok (.iaload, 1))
    (kk : W p l e R s m args below meth c H locs cells slots Q (F0 m (pc + 1) ls (.int (nI (f k)) :: rest))) : W p l e R s m args below meth c H locs cells slots Q (F0 m pc ls (.int (nI k) :: .ref a :: rest)) :=
  va_iald S.1 S.2.1 hK hP q0 t0 ha ht (vp_in_nI hk hn) hdg (by rw [nI_clamp (Nat.lt_trans hk hn)]; exact kk)
theorem k_iast (S : CallFix p m c cc nL s args Ts own) (hK : va_K D cl tys s) (hP : va_P D cl w H) (hD : va_D A w) (hS : va_S A H0 H locs) (q0 t0 : Nat) {cA : ClassId} {n k x : Nat} {f : Nat → Nat} (ha : w[q0]? = some (a, .inl (cA, n, .inl (row f)))) (ht : tys[t0]? = some (cA, .int)) (hk : k < n) (hn : n < 2 ^ 31) (hdg : decode cc pc = .ok (.iastore, 1)) (w' : va_W) (hw : w.set q0 (a, .inl (cA, n, .inl (row (updN f k x)))) = w')
    (kk : ∀ (H1 : Heap) (locs1 : List Loc), va_P D cl w' H1 → va_D A w' → va_S A H0 H1 locs1 → W p l e R s m args below meth c H1 locs1 cells slots Q (F0 m (pc + 1) ls rest)) : W p l e R s m args below meth c H locs cells slots Q (F0 m pc ls (.int (nI x) :: .int (nI k) :: .ref a :: rest)) :=
  va_iast S.1 S.2.1 hK hP hD hS q0 t0 ha ht (vp_in_nI hk hn) hdg (fun H1 locs1 h1 h2 h3 => by
    rw [nI_clamp (Nat.lt_trans hk hn), row_upd, hw] at h1 h2
    exact kk H1 locs1 h1 h2 h3)
theorem k_get (S : CallFix p m c cc nL s args Ts own) {C : String} {T : u_T} {N ci index : Nat} (hin : ∀ x ∈ u_ws C T N, x ∈ Ts) (hK : va_K D cl tys s) (hP : va_P D cl w H) (q0 : Nat) {fs : List Value} (he : w[q0]? = some (a, .inr (ci, fs))) (hc : cl[ci]? = some (C, T, N)) (k : Nat) (hk : k < N) (hm : Cond.fieldLink own index (T k).1 (T k).2.1 (T k).2.2.1 ∈ Ts) {v : Value} (hv : fs[k]? = some v) (hdg : decode cc pc = .ok (.getfield index, 3))
    (kk : W p l e R s m args below meth c H locs cells slots Q (F0 m (pc + 3) ls (v :: rest))) : W p l e R s m args below meth c H locs cells slots Q (F0 m pc ls (.ref a :: rest)) :=
  va_get S.1 S.2.1 S.2.2.2.2 hin S.2.2.2.1 hK hP q0 he hc k hk (S.2.2.2.2 _ hm) (fun _ h => h) hv hdg kk
theorem k_put (S : CallFix p m c cc nL s args Ts own) {C : String} {T : u_T} {N ci index : Nat} (hin : ∀ x ∈ u_ws C T N, x ∈ Ts) (ty0 : Nat → FieldType) (hty : ∀ k, k < N → parseFieldDescriptor (T k).2.2.1 = some (ty0 k)) (hnm : ∀ a, a < N → ∀ b, b < N → a ≠ b → (T a).2.1 ≠ (T b).2.1) (hK : va_K D cl tys s) (hP : va_P D cl w H) (hD : va_D A w) (hS : va_S A H0 H locs) (q0 : Nat) {fs : List Value} (he : w[q0]? = some (a, .inr (ci, fs))) (hc : cl[ci]? = some (C, T, N)) (k : Nat) (hk : k < N) (hm : Cond.fieldLink own index (T k).1 (T k).2.1 (T k).2.2.1 ∈ Ts) (hfin : (T k).2.2.2 = false) {x : Int32} (hd : parseFieldDescriptor (T k).2.2.1 = some .int) (hl : k < fs.length)
    (hdg : decode cc pc = .ok (.putfield index, 3)) (w' : va_W) (hw : w.set q0 (a, .inr (ci, fs.set k (.int x))) = w') (kk : ∀ (H1 : Heap) (locs1 : List Loc), va_P D cl w' H1 → va_D A w' → va_S A H0 H1 locs1 → W p l e R s m args below meth c H1 locs1 cells slots Q (F0 m (pc + 3) ls rest)) : W p l e R s m args below meth c H locs cells slots Q (F0 m pc ls (.int x :: .ref a :: rest)) :=
  va_put S.1 S.2.1 S.2.2.2.2 hin ty0 hty hnm S.2.2.2.1 hK hP hD hS q0 he hc k hk (S.2.2.2.2 _ hm) (fun _ h => h) hfin hd rfl rfl hl hdg (fun H1 locs1 h1 h2 h3 => by
    rw [hw] at h1 h2
    exact kk H1 locs1 h1 h2 h3)
/-! calls -/
variable {C : String} {y : MethodName} {bytes : ByteArray} {maxL fr lo index n : Nat} {ret : Option FieldType} {ws ws' : List Cond} {As : List Value} {b : Nat}
theorem k_pV (S : CallFix p m c cc nL s args Ts own) {v : Int32} (hM : PI l y ws fr lo D tysC (.ref b :: As) wc v) (hT : GoodIn Ts (wsV own index C y ws)) (hw : ws = Cond.code y bytes maxL ret :: ws')
    (hd : y.cls = C ∧ y.cls ≠ "java/lang/invoke/MethodHandle" ∧ y.cls ≠ "java/lang/invoke/VarHandle" ∧ (parseMethodDescriptor y.desc).map (fun d => d.parameters.length) = some n) (hR : fr + 1 ≤ R.frames ∧ 8 + (maxL + 11) + lo ≤ R.locals)
    (hn : As.length = n) (hsize : ls.size = nL) (hstack : st0 = As.reverse ++ .ref b :: rest) (hc8 : (rest.map fun v => v.category).sum ≤ 8) (hdg : decode cc pc = .ok (.invokevirtual index, 3)) (hf : cells ≤ R.cells ∧ slots ≤ R.slots)
    (hK : KK D tysC s) (hP : va_P D vwCl w H) (hS : va_S A0 H0 H locs) (isC : List Nat) (hC : isC.map (fun i => w[i]?) = wc.map some) {q0 ci N : Nat} {T : u_T} {fs : List Value} (he : w[q0]? = some (b, .inr (ci, fs))) (hc : vwCl[ci]? = some (C, T, N))
    (kk : ∀ (H1 : Heap) (locs1 : List Loc), va_P D vwCl w H1 → va_S A0 H0 H1 locs1 → W p l e R s m args below meth c H1 locs1 cells slots Q (F0 m (pc + 3) ls (.int v :: rest))) : W p l e R s m args below meth c H locs cells slots Q (F0 m pc ls st0) := by
  have hPc := sub_at hP isC hC
  refine va_calli (va_runV (As := As) (rest := rest) S hM (cwV n S.2.2.2.2 hT hw rfl rfl hd hR) ⟨blindP, va_recv hK.1 hP hc he, fun U hU hW => ⟨rfl, by rw [hU]; exact hPc, KK.moved hW hK⟩⟩ rfl hn hsize hstack (lv_room hc8) hdg hf) hS (fun q _ h => h.elim) (fun q h => h.elim) (fun r u t H1 locs1 ht hvm hw1 hB hz1 hk1 hS => ?_)
  subst hw1
  exact kk H1 locs1 (keep_P hP hk1) hS
theorem k_pLV (S : CallFix p m c cc nL s args Ts own) {v : Int64} (hM : PL l y ws fr lo D tysC (.ref b :: As) wc v) (hT : GoodIn Ts (wsV own index C y ws)) (hw : ws = Cond.code y bytes maxL ret :: ws')
    (hd : y.cls = C ∧ y.cls ≠ "java/lang/invoke/MethodHandle" ∧ y.cls ≠ "java/lang/invoke/VarHandle" ∧ (parseMethodDescriptor y.desc).map (fun d => d.parameters.length) = some n) (hR : fr + 1 ≤ R.frames ∧ 8 + (maxL + 11) + lo ≤ R.locals)
    (hn : As.length = n) (hsize : ls.size = nL) (hstack : st0 = As.reverse ++ .ref b :: rest) (hc8 : (rest.map fun v => v.category).sum ≤ 8) (hdg : decode cc pc = .ok (.invokevirtual index, 3)) (hf : cells ≤ R.cells ∧ slots ≤ R.slots)
    (hK : KK D tysC s) (hP : va_P D vwCl w H) (hS : va_S A0 H0 H locs) (isC : List Nat) (hC : isC.map (fun i => w[i]?) = wc.map some) {q0 ci N : Nat} {T : u_T} {fs : List Value} (he : w[q0]? = some (b, .inr (ci, fs))) (hc : vwCl[ci]? = some (C, T, N))
    (kk : ∀ (H1 : Heap) (locs1 : List Loc), va_P D vwCl w H1 → va_S A0 H0 H1 locs1 → W p l e R s m args below meth c H1 locs1 cells slots Q (F0 m (pc + 3) ls (.long v :: rest))) : W p l e R s m args below meth c H locs cells slots Q (F0 m pc ls st0) := by
  have hPc := sub_at hP isC hC
  refine va_calll (va_runV (As := As) (rest := rest) S hM (cwV n S.2.2.2.2 hT hw rfl rfl hd hR) ⟨blindP, va_recv hK.1 hP hc he, fun U hU hW => ⟨rfl, by rw [hU]; exact hPc, KK.moved hW hK⟩⟩ rfl hn hsize hstack (lv_room hc8) hdg hf) hS (fun q _ h => h.elim) (fun q h => h.elim) (fun r u t H1 locs1 ht hvm hw1 hB hz1 hk1 hS => ?_)
  subst hw1
  exact kk H1 locs1 (keep_P hP hk1) hS
theorem k_pDV (S : CallFix p m c cc nL s args Ts own) {v : UInt64} (hM : PD l y ws fr lo D tysC (.ref b :: As) wc v) (hT : GoodIn Ts (wsV own index C y ws)) (hw : ws = Cond.code y bytes maxL ret :: ws')
    (hd : y.cls = C ∧ y.cls ≠ "java/lang/invoke/MethodHandle" ∧ y.cls ≠ "java/lang/invoke/VarHandle" ∧ (parseMethodDescriptor y.desc).map (fun d => d.parameters.length) = some n) (hR : fr + 1 ≤ R.frames ∧ 8 + (maxL + 11) + lo ≤ R.locals)
    (hn : As.length = n) (hsize : ls.size = nL) (hstack : st0 = As.reverse ++ .ref b :: rest) (hc8 : (rest.map fun v => v.category).sum ≤ 8) (hdg : decode cc pc = .ok (.invokevirtual index, 3)) (hf : cells ≤ R.cells ∧ slots ≤ R.slots)
    (hK : KK D tysC s) (hP : va_P D vwCl w H) (hS : va_S A0 H0 H locs) (isC : List Nat) (hC : isC.map (fun i => w[i]?) = wc.map some) {q0 ci N : Nat} {T : u_T} {fs : List Value} (he : w[q0]? = some (b, .inr (ci, fs))) (hc : vwCl[ci]? = some (C, T, N))
    (kk : ∀ (H1 : Heap) (locs1 : List Loc), va_P D vwCl w H1 → va_S A0 H0 H1 locs1 → W p l e R s m args below meth c H1 locs1 cells slots Q (F0 m (pc + 3) ls (.double v :: rest))) : W p l e R s m args below meth c H locs cells slots Q (F0 m pc ls st0) := by
  have hPc := sub_at hP isC hC
  refine va_calld (va_runV (As := As) (rest := rest) S hM (cwV n S.2.2.2.2 hT hw rfl rfl hd hR) ⟨blindP, va_recv hK.1 hP hc he, fun U hU hW => ⟨rfl, by rw [hU]; exact hPc, KK.moved hW hK⟩⟩ rfl hn hsize hstack (lv_room hc8) hdg hf) hS (fun q _ h => h.elim) (fun q h => h.elim) (fun r u t H1 locs1 ht hvm hw1 hB hz1 hk1 hS => ?_)
  subst hw1
  exact kk H1 locs1 (keep_P hP hk1) hS
/-- a static one without cells -/
theorem k_pS (S : CallFix p m c cc nL s args Ts own) {v : Int32} (hM : PI l y ws fr lo D tysC As [] v) (hT : GoodIn Ts (va_wsS own index y ws)) (hw : ws = Cond.code y bytes maxL ret :: ws')
    (hd : y.cls ≠ "java/lang/invoke/MethodHandle" ∧ y.cls ≠ "java/lang/invoke/VarHandle" ∧ (parseMethodDescriptor y.desc).map (fun d => d.parameters.length) = some n) (hR : fr + 1 ≤ R.frames ∧ 8 + (maxL + 11) + lo ≤ R.locals)
    (hn : As.length = n) (hsize : ls.size = nL) (hstack : st0 = As.reverse ++ rest) (hc8 : (rest.map fun v => v.category).sum ≤ 8) (hdg : decode cc pc = .ok (.invokestatic index, 3)) (hf : cells ≤ R.cells ∧ slots ≤ R.slots)
    (hK : KK D tysC s) (hP : va_P D vwCl w H) (hS : va_S A0 H0 H locs)
    (kk : ∀ (H1 : Heap) (locs1 : List Loc), va_P D vwCl w H1 → va_S A0 H0 H1 locs1 → W p l e R s m args below meth c H1 locs1 cells slots Q (F0 m (pc + 3) ls (.int v :: rest))) : W p l e R s m args below meth c H locs cells slots Q (F0 m pc ls st0) := by
  refine va_calli (va_runS (As := As) (rest := rest) S hM (va_cwS n S.2.2.2.2 hT hw rfl rfl hd hR) ⟨blindP, fun U hU hW => ⟨rfl, fun k q h => by simp at h, KK.moved hW hK⟩⟩ rfl hn hsize hstack (lv_room hc8) hdg hf) hS (fun q _ h => h.elim) (fun q h => h.elim) (fun r u t H1 locs1 ht hvm hw1 hB hz1 hk1 hS => ?_)
  subst hw1
  exact kk H1 locs1 (keep_P hP hk1) hS
theorem k_pLS (S : CallFix p m c cc nL s args Ts own) {v : Int64} (hM : PL l y ws fr lo D tysC As [] v) (hT : GoodIn Ts (va_wsS own index y ws)) (hw : ws = Cond.code y bytes maxL ret :: ws')
    (hd : y.cls ≠ "java/lang/invoke/MethodHandle" ∧ y.cls ≠ "java/lang/invoke/VarHandle" ∧ (parseMethodDescriptor y.desc).map (fun d => d.parameters.length) = some n) (hR : fr + 1 ≤ R.frames ∧ 8 + (maxL + 11) + lo ≤ R.locals)
    (hn : As.length = n) (hsize : ls.size = nL) (hstack : st0 = As.reverse ++ rest) (hc8 : (rest.map fun v => v.category).sum ≤ 8) (hdg : decode cc pc = .ok (.invokestatic index, 3)) (hf : cells ≤ R.cells ∧ slots ≤ R.slots)
    (hK : KK D tysC s) (hP : va_P D vwCl w H) (hS : va_S A0 H0 H locs)
    (kk : ∀ (H1 : Heap) (locs1 : List Loc), va_P D vwCl w H1 → va_S A0 H0 H1 locs1 → W p l e R s m args below meth c H1 locs1 cells slots Q (F0 m (pc + 3) ls (.long v :: rest))) : W p l e R s m args below meth c H locs cells slots Q (F0 m pc ls st0) := by
  refine va_calll (va_runS (As := As) (rest := rest) S hM (va_cwS n S.2.2.2.2 hT hw rfl rfl hd hR) ⟨blindP, fun U hU hW => ⟨rfl, fun k q h => by simp at h, KK.moved hW hK⟩⟩ rfl hn hsize hstack (lv_room hc8) hdg hf) hS (fun q _ h => h.elim) (fun q h => h.elim) (fun r u t H1 locs1 ht hvm hw1 hB hz1 hk1 hS => ?_)
  subst hw1
  exact kk H1 locs1 (keep_P hP hk1) hS
theorem k_mV (S : CallFix p m c cc nL s args Ts own) (hM : MV l y ws fr lo D tysC (.ref b :: As) wc w1) (hT : GoodIn Ts (wsV own index C y ws)) (hw : ws = Cond.code y bytes maxL ret :: ws')
    (hd : y.cls = C ∧ y.cls ≠ "java/lang/invoke/MethodHandle" ∧ y.cls ≠ "java/lang/invoke/VarHandle" ∧ (parseMethodDescriptor y.desc).map (fun d => d.parameters.length) = some n) (hR : fr + 1 ≤ R.frames ∧ 8 + (maxL + 11) + lo ≤ R.locals)
    (hn : As.length = n) (hsize : ls.size = nL) (hstack : st0 = As.reverse ++ .ref b :: rest) (hc8 : (rest.map fun v => v.category).sum ≤ 8) (hdg : decode cc pc = .ok (.invokevirtual index, 3)) (hf : cells ≤ R.cells ∧ slots ≤ R.slots)
    (hK : KK D tysC s) (hP : va_P D vwCl w H) (hD : va_D A0 w) (hS : va_S A0 H0 H locs) (isC : List Nat) (hC : isC.map (fun i => w[i]?) = wc.map some) (hnd : va_nd isC = true) (hl : isC.length = w1.length) (w' : va_W) (hw' : mset w isC w1 = w') (ha : w'.map (·.1) = w.map (·.1)) {q0 ci N : Nat} {T : u_T} {fs : List Value} (he : w[q0]? = some (b, .inr (ci, fs))) (hc : vwCl[ci]? = some (C, T, N))
    (kk : ∀ (H1 : Heap) (locs1 : List Loc), va_P D vwCl w' H1 → va_D A0 w' → va_S A0 H0 H1 locs1 → W p l e R s m args below meth c H1 locs1 cells slots Q (F0 m (pc + 3) ls rest)) : W p l e R s m args below meth c H locs cells slots Q (F0 m pc ls st0) := by
  have hPc := sub_at hP isC hC
  have hDc := subD_at hD isC hnd hC
  refine va_callv (va_runV (As := As) (rest := rest) S hM (cwV n S.2.2.2.2 hT hw rfl rfl hd hR) ⟨blindM, va_recv hK.1 hP hc he, fun U hU hW => ⟨rfl, by rw [hU]; exact hPc, KK.moved hW hK, hDc.weaken (fun _ _ _ _ => trivial)⟩⟩ rfl hn hsize hstack (lv_room hc8) hdg hf) hS (fun q _ h => B_in hD isC hC q h) (fun q h => B_in hD isC hC q h) (fun u t H1 locs1 ht hvm hw1 hB hz1 hk1 hS => ?_)
  rw [ht] at hB
  exact kk H1 locs1 (by rw [← hw']; exact mjoin hP hD isC hC hl hk1 hB) (D_re hD ha) hS
theorem k_mI (S : CallFix p m c cc nL s args Ts own) {v : Int32} (hM : MI l y ws fr lo D tysC (.ref b :: As) wc w1 v) (hT : GoodIn Ts (wsV own index C y ws)) (hw : ws = Cond.code y bytes maxL ret :: ws')
    (hd : y.cls = C ∧ y.cls ≠ "java/lang/invoke/MethodHandle" ∧ y.cls ≠ "java/lang/invoke/VarHandle" ∧ (parseMethodDescriptor y.desc).map (fun d => d.parameters.length) = some n) (hR : fr + 1 ≤ R.frames ∧ 8 + (maxL + 11) + lo ≤ R.locals)
    (hn : As.length = n) (hsize : ls.size = nL) (hstack : st0 = As.reverse ++ .ref b :: rest) (hc8 : (rest.map fun v => v.category).sum ≤ 8) (hdg : decode cc pc = .ok (.invokevirtual index, 3)) (hf : cells ≤ R.cells ∧ slots ≤ R.slots)
    (hK : KK D tysC s) (hP : va_P D vwCl w H) (hD : va_D A0 w) (hS : va_S A0 H0 H locs) (isC : List Nat) (hC : isC.map (fun i => w[i]?) = wc.map some) (hnd : va_nd isC = true) (hl : isC.length = w1.length) (w' : va_W) (hw' : mset w isC w1 = w') (ha : w'.map (·.1) = w.map (·.1)) {q0 ci N : Nat} {T : u_T} {fs : List Value} (he : w[q0]? = some (b, .inr (ci, fs))) (hc : vwCl[ci]? = some (C, T, N))
    (kk : ∀ (H1 : Heap) (locs1 : List Loc), va_P D vwCl w' H1 → va_D A0 w' → va_S A0 H0 H1 locs1 → W p l e R s m args below meth c H1 locs1 cells slots Q (F0 m (pc + 3) ls (.int v :: rest))) : W p l e R s m args below meth c H locs cells slots Q (F0 m pc ls st0) := by
  have hPc := sub_at hP isC hC
  have hDc := subD_at hD isC hnd hC
  refine va_calli (va_runV (As := As) (rest := rest) S hM (cwV n S.2.2.2.2 hT hw rfl rfl hd hR) ⟨blindM, va_recv hK.1 hP hc he, fun U hU hW => ⟨rfl, by rw [hU]; exact hPc, KK.moved hW hK, hDc.weaken (fun _ _ _ _ => trivial)⟩⟩ rfl hn hsize hstack (lv_room hc8) hdg hf) hS (fun q _ h => B_in hD isC hC q h) (fun q h => B_in hD isC hC q h) (fun r u t H1 locs1 ht hvm hw1 hB hz1 hk1 hS => ?_)
  rw [ht] at hB
  subst hw1
  exact kk H1 locs1 (by rw [← hw']; exact mjoin hP hD isC hC hl hk1 hB) (D_re hD ha) hS
/-- a private static one of a nest mate -/
theorem k_pSN (S : CallFix p m c cc nL s args Ts own) {v : Int32} {host : String} (hM : PI l y ws fr lo D tysC As [] v) (hG : GoodIn Ts ws) (hN : va_Nw (.methodLinkNest own index y host) s) (hini : Cond.initialized y.cls ∈ Ts) (hst : Cond.static y ∈ Ts) (hw : ws = Cond.code y bytes maxL ret :: ws')
    (hd : y.cls ≠ "java/lang/invoke/MethodHandle" ∧ y.cls ≠ "java/lang/invoke/VarHandle" ∧ (parseMethodDescriptor y.desc).map (fun d => d.parameters.length) = some n) (hR : fr + 1 ≤ R.frames ∧ 8 + (maxL + 11) + lo ≤ R.locals)
    (hn : As.length = n) (hsize : ls.size = nL) (hstack : st0 = As.reverse ++ rest) (hc8 : (rest.map fun v => v.category).sum ≤ 8) (hdg : decode cc pc = .ok (.invokestatic index, 3)) (hf : cells ≤ R.cells ∧ slots ≤ R.slots)
    (hK : KK D tysC s) (hP : va_P D vwCl w H) (hS : va_S A0 H0 H locs)
    (kk : ∀ (H1 : Heap) (locs1 : List Loc), va_P D vwCl w H1 → va_S A0 H0 H1 locs1 → W p l e R s m args below meth c H1 locs1 cells slots Q (F0 m (pc + 3) ls (.int v :: rest))) : W p l e R s m args below meth c H locs cells slots Q (F0 m pc ls st0) := by
  refine va_calli (va_runSN (As := As) (rest := rest) S hM ⟨va_cnB n S.2.2.2.2 hG hw rfl rfl hN (S.2.2.2.2 _ hini) hd hR, S.2.2.2.2 _ hst, trivial⟩ ⟨blindP, fun U hU hW => ⟨rfl, fun k q h => by simp at h, KK.moved hW hK⟩⟩ rfl hn hsize hstack (lv_room hc8) hdg hf) hS (fun q _ h => h.elim) (fun q h => h.elim) (fun r u t H1 locs1 ht hvm hw1 hB hz1 hk1 hS => ?_)
  subst hw1
  exact kk H1 locs1 (keep_P hP hk1) hS
theorem k_copy (S : CallFix p m c cc nL s args Ts own) (hsize : ls.size = nL) {index : Nat} (m1 : Cond.methodLink own index arraycopyName ∈ Ts) (m2 : Cond.native arraycopyName ∈ Ts) (m3 : Cond.static arraycopyName ∈ Ts) (m4 : Cond.initialized "java/lang/System" ∈ Ts)
    (hK : va_K D cl tys s) (hP : va_P D cl w H) (hD : va_D A w) (hS : va_S A H0 H locs) (q0 q1 t0 : Nat) {a0 : Nat} {cA : ClassId} {n : Nat} {f g : Nat → Int32} (ha0 : w[q0]? = some (a0, .inl (cA, n, .inl f))) (ha1 : w[q1]? = some (a, .inl (cA, n, .inl g))) (ht : tys[t0]? = some (cA, .int)) (hn : n < 2 ^ 31)
    (hfr : 1 ≤ R.frames) (hlo : (rest.map fun v => v.category).sum + 18 ≤ R.locals) (hdg : decode cc pc = .ok (.invokestatic index, 3)) (w' : va_W) (hw : w.set q1 (a, .inl (cA, n, .inl f)) = w')
    (kk : ∀ (H1 : Heap) (locs1 : List Loc), va_P D cl w' H1 → va_D A w' → va_S A H0 H1 locs1 → W p l e R s m args below meth c H1 locs1 cells slots Q (F0 m (pc + 3) ls rest)) : W p l e R s m args below meth c H locs cells slots Q (F0 m pc ls (.int (nI n) :: .int (nI 0) :: .ref a :: .int (nI 0) :: .ref a0 :: rest)) := by
  have e0 : (nI 0).toNatClampNeg = 0 := by decide
  have en : (nI n).toNatClampNeg = n := nI_clamp hn
  refine va_copyi S.1 S.2.1 (S.2.2.1.trans hsize.symm) S.2.2.2.1 (S.2.2.2.2 _ m1) (S.2.2.2.2 _ m2) (S.2.2.2.2 _ m3) (S.2.2.2.2 _ m4) hK hP hD hS q0 q1 t0 t0 ha0 ha1 ht ht rfl (by decide) (by decide) (nI_pos hn) (by rw [e0, en]; omega) (by rw [e0, en]; omega) (fun i _ => rfl) hfr hlo hdg (fun H1 locs1 h1 h2 h3 => ?_)
  rw [e0, en] at h1 h2
  have hlt : q1 < w.length := (List.getElem?_eq_some_iff.mp ha1).1
  have e1 : vp_cell cA (n, .inl (va_cpy f g 0 0 n)) = vp_cell cA (n, .inl f) := by
    rw [vp_cell_i, vp_cell_i]
    unfold arrV
    congr 1
    congr 1
    funext j
    show Value.int (va_cpy f g 0 0 n j.val) = Value.int (f j.val)
    rw [pk_cpy_in (Nat.zero_le _) (by have := j.isLt; omega)]
    congr 2
    omega
  have hP2 : va_P D cl w' H1 := by
    rw [← hw]
    intro k q hq
    by_cases hk : k = q1
    · subst hk
      rw [List.getElem?_set_self hlt] at hq
      cases hq
      have := h1 k _ (List.getElem?_set_self hlt)
      show H1[a]? = some (vp_cell cA (n, .inl f))
      rw [← e1]
      exact this
    · rw [List.getElem?_set_ne (fun e => hk e.symm)] at hq
      exact h1 k q (by rw [List.getElem?_set_ne (fun e => hk e.symm)]; exact hq)
  refine kk H1 locs1 hP2 (D_re h2 ?_) h3
  rw [← hw, List.map_set, List.map_set]
/-! ends -/
theorem k_retP (S : CallFix p m c cc nL s args Ts own) {ty : FieldType} {v v1 : Int32} (hr : meth.sig.returnType = some ty) (hlk : meth.locks = false) (hS : va_S (fun _ => False) s.heap H locs) (hv : v1 = v) (hn : narrow ty (.int v1) = .int v1) (hdg : decode cc pc = .ok (.ireturn, 1)) :
    W p l e R s m args below meth c H locs cells slots (MQ below (va_Qi (fun r (_ : Unit) => r = v) (fun _ _ => True) (fun _ => False)) args s cells slots (fun _ => False)) (F0 m pc ls [.int v1]) :=
  W.zret S.1 S.2.1 hr hn (fun t ht hW => ⟨⟨v1, (), rfl, hv, trivial⟩, hS.F ht⟩) hS.2.2 hdg hlk
theorem k_retL (S : CallFix p m c cc nL s args Ts own) {v v1 : Int64} (hr : meth.sig.returnType = some .long) (hlk : meth.locks = false) (hS : va_S (fun _ => False) s.heap H locs) (hv : v1 = v) (hdg : decode cc pc = .ok (.lreturn, 1)) :
    W p l e R s m args below meth c H locs cells slots (MQ below (va_Ql (fun r (_ : Unit) => r = v) (fun _ _ => True) (fun _ => False)) args s cells slots (fun _ => False)) (F0 m pc ls [.long v1]) :=
  W.lret S.1 S.2.1 hr (fun t ht hW => ⟨⟨v1, (), rfl, hv, trivial⟩, hS.F ht⟩) hS.2.2 hdg hlk
theorem k_retD (S : CallFix p m c cc nL s args Ts own) {v v1 : UInt64} (hr : meth.sig.returnType = some .double) (hlk : meth.locks = false) (hS : va_S (fun _ => False) s.heap H locs) (hv : v1 = v) (hdg : decode cc pc = .ok (.dreturn, 1)) :
    W p l e R s m args below meth c H locs cells slots (MQ below (va_Qd (fun r (_ : Unit) => r = v) (fun _ _ => True) (fun _ => False)) args s cells slots (fun _ => False)) (F0 m pc ls [.double v1]) :=
  W.dret S.1 S.2.1 hr (fun t ht hW => ⟨⟨v1, (), rfl, hv, trivial⟩, hS.F ht⟩) hS.2.2 hdg hlk
theorem k_retMI (S : CallFix p m c cc nL s args Ts own) {ty : FieldType} {v v1 : Int32} {w0 : va_W} (hr : meth.sig.returnType = some ty) (hlk : meth.locks = false) (hP : va_P D vwCl w H) (hw : w = w1) (hS : va_S (va_B w0) s.heap H locs) (hv : v1 = v) (hn : narrow ty (.int v1) = .int v1) (hdg : decode cc pc = .ok (.ireturn, 1)) :
    W p l e R s m args below meth c H locs cells slots (MQ below (va_Qi (fun r (_ : Unit) => r = v) (fun _ t => va_P D vwCl w1 t.heap) (va_B w0)) args s cells slots (va_B w0)) (F0 m pc ls [.int v1]) :=
  W.zret S.1 S.2.1 hr hn (fun t ht hW => ⟨⟨v1, (), rfl, hv, by show va_P D vwCl w1 t.heap; rw [ht, ← hw]; exact hP⟩, hS.F ht⟩) hS.2.2 hdg hlk
theorem k_retMD (S : CallFix p m c cc nL s args Ts own) {v v1 : UInt64} {w0 : va_W} (hr : meth.sig.returnType = some .double) (hlk : meth.locks = false) (hP : va_P D vwCl w H) (hw : w = w1) (hS : va_S (va_B w0) s.heap H locs) (hv : v1 = v) (hdg : decode cc pc = .ok (.dreturn, 1)) :
    W p l e R s m args below meth c H locs cells slots (MQ below (va_Qd (fun r (_ : Unit) => r = v) (fun _ t => va_P D vwCl w1 t.heap) (va_B w0)) args s cells slots (va_B w0)) (F0 m pc ls [.double v1]) :=
  W.dret S.1 S.2.1 hr (fun t ht hW => ⟨⟨v1, (), rfl, hv, by show va_P D vwCl w1 t.heap; rw [ht, ← hw]; exact hP⟩, hS.F ht⟩) hS.2.2 hdg hlk
theorem k_retMV (S : CallFix p m c cc nL s args Ts own) {w0 : va_W} (hr : meth.sig.returnType = none) (hlk : meth.locks = false) (hP : va_P D vwCl w H) (hw : w = w1) (hS : va_S (va_B w0) s.heap H locs) (hdg : decode cc pc = .ok (.return_, 1)) :
    W p l e R s m args below meth c H locs cells slots (MQ below (va_Qv (fun _ : Unit => True) (fun _ t => va_P D vwCl w1 t.heap) (va_B w0)) args s cells slots (va_B w0)) (F0 m pc ls []) :=
  W.vret S.1 S.2.1 hr (fun t ht hW => ⟨⟨(), rfl, trivial, by show va_P D vwCl w1 t.heap; rw [ht, ← hw]; exact hP⟩, hS.F ht⟩) hS.2.2 hdg hlk
end
end
section
/-! worlds and words of this claim. A state S: S 0 = [gates, geese, visitors, beat, bribes, retreats]; S 1 ranks; S 2 a goose's gate, S 3 temper, S 4 calm, S 5 eaten; S 6 a visitor's rank, S 7 passed, S 8 corns, S 9 nerve, S 10 retreat -/
def wFl (cI : ClassId) (a : Nat → Nat) (S : Nat → Nat → Nat) : va_W := [(a 2, .inr (1, [.int (nI (S 0 1)), .ref (a 3), .ref (a 4), .ref (a 5), .ref (a 6)])), (a 3, .inl (cI, 8, .inl (row (S 2)))), (a 4, .inl (cI, 8, .inl (row (S 3)))), (a 5, .inl (cI, 8, .inl (row (S 4)))), (a 6, .inl (cI, 8, .inl (row (S 5))))]
def wGu (cI : ClassId) (a : Nat → Nat) (S : Nat → Nat → Nat) : va_W := [(a 7, .inr (2, [.int (nI (S 0 2)), .ref (a 8), .ref (a 9), .ref (a 10), .ref (a 11), .ref (a 12)])), (a 8, .inl (cI, 8, .inl (row (S 6)))), (a 9, .inl (cI, 8, .inl (row (S 9)))), (a 10, .inl (cI, 8, .inl (row (S 8)))), (a 11, .inl (cI, 8, .inl (row (S 7)))), (a 12, .inl (cI, 8, .inl (row (S 10))))]
def wFa (cI : ClassId) (a : Nat → Nat) (S : Nat → Nat → Nat) : va_W := [(a 0, .inr (0, [.int (nI (S 0 0)), .ref (a 1), .ref (a 2), .ref (a 7), .int (nI (S 0 3)), .int (nI (S 0 4)), .int (nI (S 0 5))])), (a 1, .inl (cI, 6, .inl (row (S 1)))),
  (a 2, .inr (1, [.int (nI (S 0 1)), .ref (a 3), .ref (a 4), .ref (a 5), .ref (a 6)])), (a 3, .inl (cI, 8, .inl (row (S 2)))), (a 4, .inl (cI, 8, .inl (row (S 3)))), (a 5, .inl (cI, 8, .inl (row (S 4)))), (a 6, .inl (cI, 8, .inl (row (S 5)))),
  (a 7, .inr (2, [.int (nI (S 0 2)), .ref (a 8), .ref (a 9), .ref (a 10), .ref (a 11), .ref (a 12)])), (a 8, .inl (cI, 8, .inl (row (S 6)))), (a 9, .inl (cI, 8, .inl (row (S 9)))), (a 10, .inl (cI, 8, .inl (row (S 8)))), (a 11, .inl (cI, 8, .inl (row (S 7)))), (a 12, .inl (cI, 8, .inl (row (S 10))))]
def wFF (cI : ClassId) (a b : Nat → Nat) (S S2 : Nat → Nat → Nat) : va_W := wFa cI b S2 ++ wFa cI a S
def wCo (cI : ClassId) (a b : Nat → Nat) (S S2 : Nat → Nat → Nat) : va_W := (a 13, .inr (3, [.ref (a 0), .ref (b 0)])) :: (wFa cI a S ++ wFa cI b S2)
abbrev QPI (below : List Frame) (args : Array Value) (s : State) (v : Int32) : State → Prop := MQ below (va_Qi (fun r (_ : Unit) => r = v) (fun _ _ => True) (fun _ => False)) args s 0 0 (fun _ => False)
abbrev QPL (below : List Frame) (args : Array Value) (s : State) (v : Int64) : State → Prop := MQ below (va_Ql (fun r (_ : Unit) => r = v) (fun _ _ => True) (fun _ => False)) args s 0 0 (fun _ => False)
abbrev QPD (below : List Frame) (args : Array Value) (s : State) (v : UInt64) : State → Prop := MQ below (va_Qd (fun r (_ : Unit) => r = v) (fun _ _ => True) (fun _ => False)) args s 0 0 (fun _ => False)
abbrev QMV (below : List Frame) (args : Array Value) (s : State) (D : va_G) (w0 w1 : va_W) : State → Prop := MQ below (va_Qv (fun _ : Unit => True) (fun _ t => va_P D vwCl w1 t.heap) (va_B w0)) args s 0 0 (va_B w0)
abbrev QMI (below : List Frame) (args : Array Value) (s : State) (D : va_G) (w0 w1 : va_W) (v : Int32) : State → Prop := MQ below (va_Qi (fun r (_ : Unit) => r = v) (fun _ t => va_P D vwCl w1 t.heap) (va_B w0)) args s 0 0 (va_B w0)
abbrev QMD (below : List Frame) (args : Array Value) (s : State) (D : va_G) (w0 w1 : va_W) (v : UInt64) : State → Prop := MQ below (va_Qd (fun r (_ : Unit) => r = v) (fun _ t => va_P D vwCl w1 t.heap) (va_B w0)) args s 0 0 (va_B w0)
/-! what holds of a state always -/
def Inv (S : Nat → Nat → Nat) : Prop := S 0 0 ≤ 6 ∧ S 0 1 ≤ 8 ∧ S 0 2 ≤ 8 ∧ (∀ j, S 1 j ≤ 9) ∧ (∀ j, S 2 j ≤ 6) ∧ (∀ j, j < S 0 1 → S 2 j < S 0 0) ∧ (∀ j, S 3 j ≤ 9) ∧ (∀ j, j < S 0 1 → 1 ≤ S 3 j) ∧ (∀ j, S 4 j ≤ 3) ∧ (∀ j, S 6 j ≤ 9) ∧ (∀ j, S 7 j ≤ S 0 0) ∧ (∀ j, S 8 j ≤ 20) ∧ (∀ j, S 9 j ≤ 20) ∧ (∀ j, S 10 j ≤ 4)
theorem Inv.gates {S : Nat → Nat → Nat} (h : Inv S) : S 0 0 ≤ 6 := h.1
theorem Inv.geese {S : Nat → Nat → Nat} (h : Inv S) : S 0 1 ≤ 8 := h.2.1
theorem Inv.guests {S : Nat → Nat → Nat} (h : Inv S) : S 0 2 ≤ 8 := h.2.2.1
theorem Inv.rank {S : Nat → Nat → Nat} (h : Inv S) (j : Nat) : S 1 j ≤ 9 := h.2.2.2.1 j
theorem Inv.keep {S : Nat → Nat → Nat} (h : Inv S) (j : Nat) : S 2 j ≤ 6 := h.2.2.2.2.1 j
theorem Inv.keepIn {S : Nat → Nat → Nat} (h : Inv S) (j : Nat) (hj : j < S 0 1) : S 2 j < S 0 0 := h.2.2.2.2.2.1 j hj
theorem Inv.mood {S : Nat → Nat → Nat} (h : Inv S) (j : Nat) : S 3 j ≤ 9 := h.2.2.2.2.2.2.1 j
theorem Inv.mood1 {S : Nat → Nat → Nat} (h : Inv S) (j : Nat) (hj : j < S 0 1) : 1 ≤ S 3 j := h.2.2.2.2.2.2.2.1 j hj
theorem Inv.rest {S : Nat → Nat → Nat} (h : Inv S) (j : Nat) : S 4 j ≤ 3 := h.2.2.2.2.2.2.2.2.1 j
theorem Inv.own {S : Nat → Nat → Nat} (h : Inv S) (j : Nat) : S 6 j ≤ 9 := h.2.2.2.2.2.2.2.2.2.1 j
theorem Inv.went {S : Nat → Nat → Nat} (h : Inv S) (j : Nat) : S 7 j ≤ S 0 0 := h.2.2.2.2.2.2.2.2.2.2.1 j
theorem Inv.has {S : Nat → Nat → Nat} (h : Inv S) (j : Nat) : S 8 j ≤ 20 := h.2.2.2.2.2.2.2.2.2.2.2.1 j
theorem Inv.brave {S : Nat → Nat → Nat} (h : Inv S) (j : Nat) : S 9 j ≤ 20 := h.2.2.2.2.2.2.2.2.2.2.2.2.1 j
theorem Inv.back {S : Nat → Nat → Nat} (h : Inv S) (j : Nat) : S 10 j ≤ 4 := h.2.2.2.2.2.2.2.2.2.2.2.2.2 j
/-- the entries of a flock that are compared are small -/
def Bd (S : Nat → Nat → Nat) : Prop := S 0 1 ≤ 8 ∧ ∀ j, S 2 j ≤ 6 ∧ S 3 j ≤ 9 ∧ S 4 j ≤ 3
/-- what isAwakeThere compares -/
def Bk (S : Nat → Nat → Nat) : Prop := ∀ j, S 2 j ≤ 6 ∧ S 4 j ≤ 3
theorem Bd.k {S : Nat → Nat → Nat} (h : Bd S) : Bk S := fun j => ⟨(h.2 j).1, (h.2 j).2.2⟩
theorem Inv.bd {S : Nat → Nat → Nat} (h : Inv S) : Bd S := ⟨h.geese, fun j => ⟨h.keep j, h.mood j, h.rest j⟩⟩
/-- a goose is awake at a gate -/
abbrev awk (S : Nat → Nat → Nat) (k t : Nat) : Prop := S 2 k = t ∧ S 4 k = 0
def cntN (S : Nat → Nat → Nat) (t : Nat) : Nat → Nat
  | 0 => 0
  | n + 1 => if awk S n t then cntN S t n + 1 else cntN S t n
def hisN (S : Nat → Nat → Nat) (t x : Nat) : Nat → Nat
  | 0 => 0
  | n + 1 => if awk S n t then hisN S t x n + (S 3 n + x) else hisN S t x n
/-- the fiercest of the first n awake there, by number + 1 (0: none), and its temper -/
def frcN (S : Nat → Nat → Nat) (t : Nat) : Nat → Nat × Nat
  | 0 => (0, 0)
  | n + 1 => if awk S n t ∧ (frcN S t n).2 < S 3 n then (n + 1, S 3 n) else frcN S t n
theorem frcN_le (S : Nat → Nat → Nat) (hb : ∀ j, S 3 j ≤ 9) (t : Nat) : ∀ n, (frcN S t n).2 ≤ 9 ∧ (frcN S t n).1 ≤ n
  | 0 => ⟨Nat.zero_le _, Nat.le_refl _⟩
  | n + 1 => by
    have := frcN_le S hb t n
    unfold frcN
    split
    · exact ⟨hb n, Nat.le_refl _⟩
    · exact ⟨this.1, by omega⟩
theorem hisN_le (S : Nat → Nat → Nat) (hb : ∀ j, S 3 j ≤ 9) (t x : Nat) : ∀ n, hisN S t x n ≤ n * (9 + x)
  | 0 => by simp [hisN]
  | n + 1 => by
    have h1 := hisN_le S hb t x n
    have h2 := hb n
    rw [Nat.succ_mul]
    unfold hisN
    split <;> omega
/-- a number or, for 0, -1: the number + 1 is given -/
abbrev oI (n : Nat) : Int32 := nI n - 1
theorem oI_succ (n : Nat) : oI (n + 1) = nI n := nI_pred n
theorem oI_0 : oI 0 = -1 := by decide
def sumN (S : Nat → Nat → Nat) : Nat → Nat
  | 0 => 0
  | n + 1 => sumN S n + S 3 n
theorem sumN_le (S : Nat → Nat → Nat) (hb : ∀ j, S 3 j ≤ 9) : ∀ n, sumN S n ≤ n * 9
  | 0 => by simp [sumN]
  | n + 1 => by
    have h1 := sumN_le S hb n
    have h2 := hb n
    simp only [sumN]
    omega
/-- tempers behind a going through at t, of the first n -/
def enrN (S : Nat → Nat → Nat) (t n : Nat) : Nat → Nat := fun j => if j < n ∧ awk S j t then min 9 (S 3 j + 1) else S 3 j
/-- calm a beat less, of the first n -/
def wakN (S : Nat → Nat → Nat) (n : Nat) : Nat → Nat := fun j => if j < n then S 4 j - 1 else S 4 j
theorem enrN_0 (S : Nat → Nat → Nat) (t : Nat) : setF S 3 (enrN S t 0) = S := by
  funext f j
  by_cases h : f = 3
  · subst h; simp [setF, enrN]
  · simp [setF, h]
theorem enrN_at (S : Nat → Nat → Nat) (t i : Nat) : enrN S t i i = S 3 i := by simp [enrN]
theorem enrN_y {S : Nat → Nat → Nat} {t i : Nat} (h : awk S i t) : setf (setF S 3 (enrN S t i)) 3 i (min 9 (S 3 i + 1)) = setF S 3 (enrN S t (i + 1)) := by
  funext f j
  by_cases hf : f = 3
  · subst hf
    by_cases hj : j = i
    · subst hj; simp [setF, enrN, updN, h]
    · have : j < i + 1 ↔ j < i := by omega
      simp [setF, enrN, updN, hj, this]
  · simp [setF, hf]
theorem enrN_n {S : Nat → Nat → Nat} {t i : Nat} (h : ¬ awk S i t) : setF S 3 (enrN S t i) = setF S 3 (enrN S t (i + 1)) := by
  funext f j
  by_cases hf : f = 3
  · subst hf
    by_cases hj : j = i
    · subst hj; show (if (3:Nat) = 3 then enrN S t j else S 3) j = (if (3:Nat) = 3 then enrN S t (j + 1) else S 3) j
      rw [if_pos rfl, if_pos rfl]; unfold enrN; rw [if_neg (fun q => h q.2), if_neg (fun q => h q.2)]
    · have : j < i + 1 ↔ j < i := by omega
      simp [setF, enrN, this]
  · simp [setF, hf]
theorem wakN_0 (S : Nat → Nat → Nat) : setF S 4 (wakN S 0) = S := by
  funext f j
  by_cases h : f = 4
  · subst h; simp [setF, wakN]
  · simp [setF, h]
theorem wakN_at (S : Nat → Nat → Nat) (i : Nat) : wakN S i i = S 4 i := by simp [wakN]
theorem wakN_y (S : Nat → Nat → Nat) (i : Nat) : setf (setF S 4 (wakN S i)) 4 i (S 4 i - 1) = setF S 4 (wakN S (i + 1)) := by
  funext f j
  by_cases hf : f = 4
  · subst hf
    by_cases hj : j = i
    · subst hj; simp [setF, wakN, updN]
    · have : j < i + 1 ↔ j < i := by omega
      simp [setF, wakN, updN, hj, this]
  · simp [setF, hf]
theorem wakN_n {S : Nat → Nat → Nat} {i : Nat} (h : S 4 i = 0) : setF S 4 (wakN S i) = setF S 4 (wakN S (i + 1)) := by
  funext f j
  by_cases hf : f = 4
  · subst hf
    by_cases hj : j = i
    · subst hj; simp [setF, wakN, h]
    · have : j < i + 1 ↔ j < i := by omega
      simp [setF, wakN, this]
  · simp [setF, hf]
end
section
theorem nX1_hasGoose_X1 : ∀ x ∈ wsX10, x ∈ wsX1_hasGoose := fun _ h => List.mem_cons_of_mem _ (List.mem_append_right _ h)
set_option maxRecDepth 100000 in
set_option maxHeartbeats 4000000 in
theorem c_X1_hasGoose (l : Launch) (D : va_G) (cI : ClassId) (a : Nat → Nat) (S : Nat → Nat → Nat) (g : Int32) : PI l yX1_hasGoose wsX1_hasGoose 0 0 D [(cI, .int)] [.ref (a 2), .int g] (wFl cI a S) (bI (0 ≤ g ∧ g < nI (S 0 1))) := by
  refine k_bodyP (cc := cX1_hasGoose) (maxL := 2) (ret := (some .boolean)) (by decide) rfl (Nat.le_of_ble_eq_true rfl) ?_
  intro p e s m args below meth c H ls F hr hlk hl hP hK hS
  have F : CallFix p m c cX1_hasGoose 2 s args wsX1_hasGoose RX1 := F
  have hl : lv_has ls 2 [(0, .ref (a 2)), (1, .int g)] := hl
  refine lv_iload_n F.1 F.2.1 dX1_hasGoose_0 rfl (lv_at hl 1 rfl) ?_
  refine lv_if_lt (tgt := 16) F.1 F.2.1 dX1_hasGoose_1 (by decide) (fun h1 => ?_) (fun h1 => ?_)
  · skip
    refine lv_iconst (v := nI 0) F.1 F.2.1 dX1_hasGoose_16 (by decide) ?_
    exact k_retP F hr hlk hS (fin0 (by first | exact fun q => absurd h1 (Int32.not_lt.mpr q.1) | exact fun q => absurd h9 (Int32.not_le.mpr q.2))) (by first | rfl | (split <;> rfl)) dX1_hasGoose_17
  · skip
    refine lv_iload_n F.1 F.2.1 dX1_hasGoose_4 rfl (lv_at hl 1 rfl) ?_
    refine lv_aload_n F.1 F.2.1 dX1_hasGoose_5 rfl (lv_at hl 0 rfl) ?_
    refine k_get (v := .int (nI (S 0 1))) F nX1_hasGoose_X1 hK.1 hP 0 rfl rfl 0 (by decide) (List.mem_of_getElem? (i := 1) rfl) rfl dX1_hasGoose_6 ?_
    refine lv_icmp_ge (tgt := 16) F.1 F.2.1 dX1_hasGoose_9 (by decide) (fun h9 => ?_) (fun h9 => ?_)
    · skip
      refine lv_iconst (v := nI 0) F.1 F.2.1 dX1_hasGoose_16 (by decide) ?_
      exact k_retP F hr hlk hS (fin0 (by first | exact fun q => absurd h1 (Int32.not_lt.mpr q.1) | exact fun q => absurd h9 (Int32.not_le.mpr q.2))) (by first | rfl | (split <;> rfl)) dX1_hasGoose_17
    · skip
      refine lv_iconst (v := nI 1) F.1 F.2.1 dX1_hasGoose_12 (by decide) ?_
      refine lv_goto (tgt := 17) F.1 F.2.1 dX1_hasGoose_13 (by decide) ?_
      exact k_retP F hr hlk hS (fin1 (by exact ⟨Int32.not_lt.mp h1, Int32.not_le.mp h9⟩)) (by first | rfl | (split <;> rfl)) dX1_hasGoose_17
theorem nX1_isAwakeThere_X1 : ∀ x ∈ wsX10, x ∈ wsX1_isAwakeThere := fun _ h => List.mem_cons_of_mem _ (List.mem_append_right _ h)
set_option maxRecDepth 100000 in
set_option maxHeartbeats 4000000 in
theorem c_X1_isAwakeThere (l : Launch) (D : va_G) (cI : ClassId) (a : Nat → Nat) (S : Nat → Nat → Nat) (k : Nat) (t : Nat) (hb : Bk S) (hk : k < 8) (ht : t < 2 ^ 31) : PI l yX1_isAwakeThere wsX1_isAwakeThere 0 0 D [(cI, .int)] [.ref (a 2), .int (nI k), .int (nI t)] (wFl cI a S) (bI (S 2 k = t ∧ S 4 k = 0)) := by
  refine k_bodyP (cc := cX1_isAwakeThere) (maxL := 3) (ret := (some .boolean)) (by decide) rfl (Nat.le_of_ble_eq_true rfl) ?_
  intro p e s m args below meth c H ls F hr hlk hl hP hK hS
  have F : CallFix p m c cX1_isAwakeThere 3 s args wsX1_isAwakeThere RX1 := F
  have hl : lv_has ls 3 [(0, .ref (a 2)), (1, .int (nI k)), (2, .int (nI t))] := hl
  refine lv_aload_n F.1 F.2.1 dX1_isAwakeThere_0 rfl (lv_at hl 0 rfl) ?_
  refine k_get (v := .ref (a 3)) F nX1_isAwakeThere_X1 hK.1 hP 0 rfl rfl 1 (by decide) (List.mem_of_getElem? (i := 1) rfl) rfl dX1_isAwakeThere_1 ?_
  refine lv_iload_n F.1 F.2.1 dX1_isAwakeThere_4 rfl (lv_at hl 1 rfl) ?_
  refine k_iald (f := S 2) (n := 8) F hK.1 hP 1 0 rfl rfl (by omega) (by decide) dX1_isAwakeThere_5 ?_
  have := (hb k).1
  refine lv_iload_n F.1 F.2.1 dX1_isAwakeThere_6 rfl (lv_at hl 2 rfl) ?_
  refine k_icmp_ne (tgt := 23) F (by omega) (by omega) dX1_isAwakeThere_7 (by decide) (fun h7 => ?_) (fun h7 => ?_)
  · skip
    refine lv_iconst (v := nI 0) F.1 F.2.1 dX1_isAwakeThere_23 (by decide) ?_
    exact k_retP F hr hlk hS (fin0 (by omega)) (by first | rfl | (split <;> rfl)) dX1_isAwakeThere_24
  · skip
    refine lv_aload_n F.1 F.2.1 dX1_isAwakeThere_10 rfl (lv_at hl 0 rfl) ?_
    refine k_get (v := .ref (a 5)) F nX1_isAwakeThere_X1 hK.1 hP 0 rfl rfl 3 (by decide) (List.mem_of_getElem? (i := 2) rfl) rfl dX1_isAwakeThere_11 ?_
    refine lv_iload_n F.1 F.2.1 dX1_isAwakeThere_14 rfl (lv_at hl 1 rfl) ?_
    refine k_iald (f := S 4) (n := 8) F hK.1 hP 3 0 rfl rfl (by omega) (by decide) dX1_isAwakeThere_15 ?_
    have := (hb k).2
    refine k_if_ne (tgt := 23) F (by omega) dX1_isAwakeThere_16 (by decide) (fun h16 => ?_) (fun h16 => ?_)
    · skip
      refine lv_iconst (v := nI 0) F.1 F.2.1 dX1_isAwakeThere_23 (by decide) ?_
      exact k_retP F hr hlk hS (fin0 (by omega)) (by first | rfl | (split <;> rfl)) dX1_isAwakeThere_24
    · skip
      refine lv_iconst (v := nI 1) F.1 F.2.1 dX1_isAwakeThere_19 (by decide) ?_
      refine lv_goto (tgt := 24) F.1 F.2.1 dX1_isAwakeThere_20 (by decide) ?_
      exact k_retP F hr hlk hS (fin1 (by omega)) (by first | rfl | (split <;> rfl)) dX1_isAwakeThere_24
theorem nX1_countAwake_X1 : ∀ x ∈ wsX10, x ∈ wsX1_countAwake := fun _ h => List.mem_cons_of_mem _ (List.mem_append_right _ h)
set_option maxRecDepth 100000 in
set_option maxHeartbeats 4000000 in
theorem c_X1_countAwake (l : Launch) (D : va_G) (cI : ClassId) (a : Nat → Nat) (S : Nat → Nat → Nat) (t : Nat) (hb : Bd S) (ht : t < 2 ^ 31) : PI l yX1_countAwake wsX1_countAwake 1 22 D [(cI, .int)] [.ref (a 2), .int (nI t)] (wFl cI a S) (nI (cntN S t (S 0 1))) := by
  refine k_bodyP (cc := cX1_countAwake) (maxL := 4) (ret := (some .int)) (by decide) rfl (Nat.le_of_ble_eq_true rfl) ?_
  intro p e s m args below meth c H ls F hr hlk hl hP hK hS
  have F : CallFix p m c cX1_countAwake 4 s args wsX1_countAwake RX1 := F
  have hl : lv_has ls 4 [(0, .ref (a 2)), (1, .int (nI t))] := hl
  have hn := hb.1
  refine lv_iconst (v := nI 0) F.1 F.2.1 dX1_countAwake_0 (by decide) ?_
  refine lv_istore_n (lv' := [(2, .int (nI 0)), (0, .ref (a 2)), (1, .int (nI t))]) F.1 F.2.1 dX1_countAwake_1 rfl hl (by decide) rfl (fun ls hl => ?_)
  refine lv_iconst (v := nI 0) F.1 F.2.1 dX1_countAwake_2 (by decide) ?_
  refine lv_istore_n (lv' := [(3, .int (nI 0)), (2, .int (nI 0)), (0, .ref (a 2)), (1, .int (nI t))]) F.1 F.2.1 dX1_countAwake_3 rfl hl (by decide) rfl (fun ls hl => ?_)
  have loop4 : ∀ (n : Nat) (i : Nat), i ≤ S 0 1 → S 0 1 + 1 ≤ i + n → ∀ (H : Heap) (locs : List Loc) (ls : Array Slot), va_P D vwCl (wFl cI a S) H → va_S (fun _ => False) s.heap H locs → lv_has ls 4 [(0, .ref (a 2)), (1, .int (nI t)), (2, .int (nI (cntN S t i))), (3, .int (nI i))] → W p l e (rmN 1 22) s m args below meth c H locs 0 0 (QPI below args s (nI (cntN S t (S 0 1)))) (F0 m 4 ls []) := by
    intro n
    induction n with
    | zero => intro i hi hn; exact absurd hn (by omega)
    | succ n ih4 =>
      intro i hi hn  H locs ls hP hS hl
      refine lv_iload_n F.1 F.2.1 dX1_countAwake_4 rfl (lv_at hl 3 rfl) ?_
      refine lv_aload_n F.1 F.2.1 dX1_countAwake_5 rfl (lv_at hl 0 rfl) ?_
      refine k_get (v := .int (nI (S 0 1))) F nX1_countAwake_X1 hK.1 hP 0 rfl rfl 0 (by decide) (List.mem_of_getElem? (i := 1) rfl) rfl dX1_countAwake_6 ?_
      refine k_icmp_ge (tgt := 30) F (by omega) (by omega) dX1_countAwake_9 (by decide) (fun h9 => ?_) (fun h9 => ?_)
      · skip
        refine lv_iload_n F.1 F.2.1 dX1_countAwake_30 rfl (lv_at hl 2 rfl) ?_
        exact k_retP F hr hlk hS (by rw [show i = S 0 1 by omega]) rfl dX1_countAwake_31
      · skip
        refine lv_aload_n F.1 F.2.1 dX1_countAwake_12 rfl (lv_at hl 0 rfl) ?_
        refine lv_iload_n F.1 F.2.1 dX1_countAwake_13 rfl (lv_at hl 3 rfl) ?_
        refine lv_iload_n F.1 F.2.1 dX1_countAwake_14 rfl (lv_at hl 1 rfl) ?_
        refine k_pV (n := 2) (rest := []) (v := bI (S 2 i = t ∧ S 4 i = 0)) F (c_X1_isAwakeThere l D cI a S i t hb.k (by first | assumption | omega) (by first | assumption | omega)) gX1_countAwake_X1_isAwakeThere rfl (by decide +kernel) ⟨Nat.le_of_ble_eq_true rfl, Nat.le_of_ble_eq_true rfl⟩ rfl hl.1 rfl (Nat.le_of_ble_eq_true rfl) dX1_countAwake_15 ⟨Nat.zero_le _, Nat.zero_le _⟩ hK hP hS [0, 1, 2, 3, 4] rfl (q0 := 0) (ci := 1) rfl rfl (fun H locs hP hS => ?_)
        refine k_ifeq_b (tgt := 24) F dX1_countAwake_18 (by decide) (fun h18 => ?_) (fun h18 => ?_)
        · skip
          refine k_inc (k := 3) (lv' := [(3, .int (nI (i + 1))), (0, .ref (a 2)), (1, .int (nI t)), (2, .int (nI (cntN S t i)))]) F dX1_countAwake_24 hl rfl (by decide) rfl (fun ls hl => ?_)
          refine lv_goto (tgt := 4) F.1 F.2.1 dX1_countAwake_27 (by decide) ?_
          have e_1 : cntN S t i = cntN S t (i + 1) := by first | rfl | (simp [cntN, *]; done)
          rw [e_1] at hl
          exact ih4 (i + 1) (by omega) (by omega)  _ _ _ hP hS (lv_sub hl [1, 2, 3, 0] rfl)
        · skip
          refine k_inc (k := 2) (lv' := [(2, .int (nI (cntN S t i + 1))), (0, .ref (a 2)), (1, .int (nI t)), (3, .int (nI i))]) F dX1_countAwake_21 hl rfl (by decide) rfl (fun ls hl => ?_)
          refine k_inc (k := 3) (lv' := [(3, .int (nI (i + 1))), (2, .int (nI (cntN S t i + 1))), (0, .ref (a 2)), (1, .int (nI t))]) F dX1_countAwake_24 hl rfl (by decide) rfl (fun ls hl => ?_)
          refine lv_goto (tgt := 4) F.1 F.2.1 dX1_countAwake_27 (by decide) ?_
          have e_2 : (cntN S t i + 1) = cntN S t (i + 1) := by first | rfl | (simp [cntN, *]; done)
          rw [e_2] at hl
          exact ih4 (i + 1) (by omega) (by omega)  _ _ _ hP hS (lv_sub hl [2, 3, 1, 0] rfl)
  have e_3 : 0 = cntN S t 0 := by first | rfl | (simp [cntN, *]; done)
  rw [e_3] at hl
  exact loop4 ((S 0 1) + 1) 0 (by omega) (by omega)  _ _ _ hP hS (lv_sub hl [2, 3, 1, 0] rfl)
theorem nX1_hissThere_X1 : ∀ x ∈ wsX10, x ∈ wsX1_hissThere := fun _ h => List.mem_cons_of_mem _ (List.mem_append_right _ h)
set_option maxRecDepth 100000 in
set_option maxHeartbeats 4000000 in
theorem c_X1_hissThere (l : Launch) (D : va_G) (cI : ClassId) (a : Nat → Nat) (S : Nat → Nat → Nat) (t : Nat) (x : Nat) (hb : Bd S) (ht : t < 2 ^ 31) : PI l yX1_hissThere wsX1_hissThere 1 22 D [(cI, .int)] [.ref (a 2), .int (nI t), .int (nI x)] (wFl cI a S) (nI (hisN S t x (S 0 1))) := by
  refine k_bodyP (cc := cX1_hissThere) (maxL := 5) (ret := (some .int)) (by decide) rfl (Nat.le_of_ble_eq_true rfl) ?_
  intro p e s m args below meth c H ls F hr hlk hl hP hK hS
  have F : CallFix p m c cX1_hissThere 5 s args wsX1_hissThere RX1 := F
  have hl : lv_has ls 5 [(0, .ref (a 2)), (1, .int (nI t)), (2, .int (nI x))] := hl
  have hn := hb.1
  refine lv_iconst (v := nI 0) F.1 F.2.1 dX1_hissThere_0 (by decide) ?_
  refine lv_istore_n (lv' := [(3, .int (nI 0)), (0, .ref (a 2)), (1, .int (nI t)), (2, .int (nI x))]) F.1 F.2.1 dX1_hissThere_1 rfl hl (by decide) rfl (fun ls hl => ?_)
  refine lv_iconst (v := nI 0) F.1 F.2.1 dX1_hissThere_2 (by decide) ?_
  refine lv_istore (lv' := [(4, .int (nI 0)), (3, .int (nI 0)), (0, .ref (a 2)), (1, .int (nI t)), (2, .int (nI x))]) F.1 F.2.1 dX1_hissThere_3 hl (by decide) rfl (fun ls hl => ?_)
  have loop5 : ∀ (n : Nat) (i : Nat), i ≤ S 0 1 → S 0 1 + 1 ≤ i + n → ∀ (H : Heap) (locs : List Loc) (ls : Array Slot), va_P D vwCl (wFl cI a S) H → va_S (fun _ => False) s.heap H locs → lv_has ls 5 [(0, .ref (a 2)), (1, .int (nI t)), (2, .int (nI x)), (3, .int (nI (hisN S t x i))), (4, .int (nI i))] → W p l e (rmN 1 22) s m args below meth c H locs 0 0 (QPI below args s (nI (hisN S t x (S 0 1)))) (F0 m 5 ls []) := by
    intro n
    induction n with
    | zero => intro i hi hn; exact absurd hn (by omega)
    | succ n ih5 =>
      intro i hi hn  H locs ls hP hS hl
      refine lv_iload F.1 F.2.1 dX1_hissThere_5 (lv_at hl 4 rfl) ?_
      refine lv_aload_n F.1 F.2.1 dX1_hissThere_7 rfl (lv_at hl 0 rfl) ?_
      refine k_get (v := .int (nI (S 0 1))) F nX1_hissThere_X1 hK.1 hP 0 rfl rfl 0 (by decide) (List.mem_of_getElem? (i := 1) rfl) rfl dX1_hissThere_8 ?_
      refine k_icmp_ge (tgt := 42) F (by omega) (by omega) dX1_hissThere_11 (by decide) (fun h11 => ?_) (fun h11 => ?_)
      · skip
        refine lv_iload_n F.1 F.2.1 dX1_hissThere_42 rfl (lv_at hl 3 rfl) ?_
        exact k_retP F hr hlk hS (by rw [show i = S 0 1 by omega]) rfl dX1_hissThere_43
      · skip
        refine lv_aload_n F.1 F.2.1 dX1_hissThere_14 rfl (lv_at hl 0 rfl) ?_
        refine lv_iload F.1 F.2.1 dX1_hissThere_15 (lv_at hl 4 rfl) ?_
        refine lv_iload_n F.1 F.2.1 dX1_hissThere_17 rfl (lv_at hl 1 rfl) ?_
        refine k_pV (n := 2) (rest := []) (v := bI (S 2 i = t ∧ S 4 i = 0)) F (c_X1_isAwakeThere l D cI a S i t hb.k (by first | assumption | omega) (by first | assumption | omega)) gX1_hissThere_X1_isAwakeThere rfl (by decide +kernel) ⟨Nat.le_of_ble_eq_true rfl, Nat.le_of_ble_eq_true rfl⟩ rfl hl.1 rfl (Nat.le_of_ble_eq_true rfl) dX1_hissThere_18 ⟨Nat.zero_le _, Nat.zero_le _⟩ hK hP hS [0, 1, 2, 3, 4] rfl (q0 := 0) (ci := 1) rfl rfl (fun H locs hP hS => ?_)
        refine k_ifeq_b (tgt := 36) F dX1_hissThere_21 (by decide) (fun h21 => ?_) (fun h21 => ?_)
        · skip
          refine k_inc (k := 4) (lv' := [(4, .int (nI (i + 1))), (0, .ref (a 2)), (1, .int (nI t)), (2, .int (nI x)), (3, .int (nI (hisN S t x i)))]) F dX1_hissThere_36 hl rfl (by decide) rfl (fun ls hl => ?_)
          refine lv_goto (tgt := 5) F.1 F.2.1 dX1_hissThere_39 (by decide) ?_
          have e_1 : hisN S t x i = hisN S t x (i + 1) := by first | rfl | (simp [hisN, *]; done)
          rw [e_1] at hl
          exact ih5 (i + 1) (by omega) (by omega)  _ _ _ hP hS (lv_sub hl [1, 2, 3, 4, 0] rfl)
        · skip
          refine lv_iload_n F.1 F.2.1 dX1_hissThere_24 rfl (lv_at hl 3 rfl) ?_
          refine lv_aload_n F.1 F.2.1 dX1_hissThere_25 rfl (lv_at hl 0 rfl) ?_
          refine k_get (v := .ref (a 4)) F nX1_hissThere_X1 hK.1 hP 0 rfl rfl 2 (by decide) (List.mem_of_getElem? (i := 2) rfl) rfl dX1_hissThere_26 ?_
          refine lv_iload F.1 F.2.1 dX1_hissThere_29 (lv_at hl 4 rfl) ?_
          refine k_iald (f := S 3) (n := 8) F hK.1 hP 2 0 rfl rfl (by omega) (by decide) dX1_hissThere_31 ?_
          refine lv_iload_n F.1 F.2.1 dX1_hissThere_32 rfl (lv_at hl 2 rfl) ?_
          refine k_iadd F dX1_hissThere_33 ?_
          refine k_iadd F dX1_hissThere_34 ?_
          refine lv_istore_n (lv' := [(3, .int (nI (hisN S t x i + (S 3 i + x)))), (0, .ref (a 2)), (1, .int (nI t)), (2, .int (nI x)), (4, .int (nI i))]) F.1 F.2.1 dX1_hissThere_35 rfl hl (by decide) rfl (fun ls hl => ?_)
          refine k_inc (k := 4) (lv' := [(4, .int (nI (i + 1))), (3, .int (nI (hisN S t x i + (S 3 i + x)))), (0, .ref (a 2)), (1, .int (nI t)), (2, .int (nI x))]) F dX1_hissThere_36 hl rfl (by decide) rfl (fun ls hl => ?_)
          refine lv_goto (tgt := 5) F.1 F.2.1 dX1_hissThere_39 (by decide) ?_
          have e_2 : (hisN S t x i + (S 3 i + x)) = hisN S t x (i + 1) := by first | rfl | (simp [hisN, *]; done)
          rw [e_2] at hl
          exact ih5 (i + 1) (by omega) (by omega)  _ _ _ hP hS (lv_sub hl [2, 3, 4, 1, 0] rfl)
  have e_3 : 0 = hisN S t x 0 := by first | rfl | (simp [hisN, *]; done)
  rw [e_3] at hl
  exact loop5 ((S 0 1) + 1) 0 (by omega) (by omega)  _ _ _ hP hS (lv_sub hl [2, 3, 4, 1, 0] rfl)
theorem nX1_fiercestAwake_X1 : ∀ x ∈ wsX10, x ∈ wsX1_fiercestAwake := fun _ h => List.mem_cons_of_mem _ (List.mem_append_right _ h)
set_option maxRecDepth 100000 in
set_option maxHeartbeats 4000000 in
theorem c_X1_fiercestAwake (l : Launch) (D : va_G) (cI : ClassId) (a : Nat → Nat) (S : Nat → Nat → Nat) (t : Nat) (hb : Bd S) (ht : t < 2 ^ 31) : PI l yX1_fiercestAwake wsX1_fiercestAwake 1 22 D [(cI, .int)] [.ref (a 2), .int (nI t)] (wFl cI a S) (oI (frcN S t (S 0 1)).1) := by
  refine k_bodyP (cc := cX1_fiercestAwake) (maxL := 5) (ret := (some .int)) (by decide) rfl (Nat.le_of_ble_eq_true rfl) ?_
  intro p e s m args below meth c H ls F hr hlk hl hP hK hS
  have F : CallFix p m c cX1_fiercestAwake 5 s args wsX1_fiercestAwake RX1 := F
  have hl : lv_has ls 5 [(0, .ref (a 2)), (1, .int (nI t))] := hl
  have hn := hb.1
  refine lv_iconst (v := (-1)) F.1 F.2.1 dX1_fiercestAwake_0 (by decide) ?_
  refine lv_istore_n (lv' := [(2, .int (-1)), (0, .ref (a 2)), (1, .int (nI t))]) F.1 F.2.1 dX1_fiercestAwake_1 rfl hl (by decide) rfl (fun ls hl => ?_)
  refine lv_iconst (v := nI 0) F.1 F.2.1 dX1_fiercestAwake_2 (by decide) ?_
  refine lv_istore_n (lv' := [(3, .int (nI 0)), (2, .int (-1)), (0, .ref (a 2)), (1, .int (nI t))]) F.1 F.2.1 dX1_fiercestAwake_3 rfl hl (by decide) rfl (fun ls hl => ?_)
  refine lv_iconst (v := nI 0) F.1 F.2.1 dX1_fiercestAwake_4 (by decide) ?_
  refine lv_istore (lv' := [(4, .int (nI 0)), (3, .int (nI 0)), (2, .int (-1)), (0, .ref (a 2)), (1, .int (nI t))]) F.1 F.2.1 dX1_fiercestAwake_5 hl (by decide) rfl (fun ls hl => ?_)
  have loop7 : ∀ (n : Nat) (i : Nat), i ≤ S 0 1 → S 0 1 + 1 ≤ i + n → ∀ (H : Heap) (locs : List Loc) (ls : Array Slot), va_P D vwCl (wFl cI a S) H → va_S (fun _ => False) s.heap H locs → lv_has ls 5 [(0, .ref (a 2)), (1, .int (nI t)), (2, .int (oI (frcN S t i).1)), (3, .int (nI ((frcN S t i).2))), (4, .int (nI i))] → W p l e (rmN 1 22) s m args below meth c H locs 0 0 (QPI below args s (oI (frcN S t (S 0 1)).1)) (F0 m 7 ls []) := by
    intro n
    induction n with
    | zero => intro i hi hn; exact absurd hn (by omega)
    | succ n ih7 =>
      intro i hi hn  H locs ls hP hS hl
      have hf9 := (frcN_le S (fun j => (hb.2 j).2.1) t i).1
      refine lv_iload F.1 F.2.1 dX1_fiercestAwake_7 (lv_at hl 4 rfl) ?_
      refine lv_aload_n F.1 F.2.1 dX1_fiercestAwake_9 rfl (lv_at hl 0 rfl) ?_
      refine k_get (v := .int (nI (S 0 1))) F nX1_fiercestAwake_X1 hK.1 hP 0 rfl rfl 0 (by decide) (List.mem_of_getElem? (i := 1) rfl) rfl dX1_fiercestAwake_10 ?_
      refine k_icmp_ge (tgt := 54) F (by omega) (by omega) dX1_fiercestAwake_13 (by decide) (fun h13 => ?_) (fun h13 => ?_)
      · skip
        refine lv_iload_n F.1 F.2.1 dX1_fiercestAwake_54 rfl (lv_at hl 2 rfl) ?_
        exact k_retP F hr hlk hS (by rw [show i = S 0 1 by omega]) rfl dX1_fiercestAwake_55
      · skip
        refine lv_aload_n F.1 F.2.1 dX1_fiercestAwake_16 rfl (lv_at hl 0 rfl) ?_
        refine lv_iload F.1 F.2.1 dX1_fiercestAwake_17 (lv_at hl 4 rfl) ?_
        refine lv_iload_n F.1 F.2.1 dX1_fiercestAwake_19 rfl (lv_at hl 1 rfl) ?_
        refine k_pV (n := 2) (rest := []) (v := bI (S 2 i = t ∧ S 4 i = 0)) F (c_X1_isAwakeThere l D cI a S i t hb.k (by first | assumption | omega) (by first | assumption | omega)) gX1_fiercestAwake_X1_isAwakeThere rfl (by decide +kernel) ⟨Nat.le_of_ble_eq_true rfl, Nat.le_of_ble_eq_true rfl⟩ rfl hl.1 rfl (Nat.le_of_ble_eq_true rfl) dX1_fiercestAwake_20 ⟨Nat.zero_le _, Nat.zero_le _⟩ hK hP hS [0, 1, 2, 3, 4] rfl (q0 := 0) (ci := 1) rfl rfl (fun H locs hP hS => ?_)
        refine k_ifeq_b (tgt := 48) F dX1_fiercestAwake_23 (by decide) (fun h23 => ?_) (fun h23 => ?_)
        · skip
          refine k_inc (k := 4) (lv' := [(4, .int (nI (i + 1))), (0, .ref (a 2)), (1, .int (nI t)), (2, .int (oI (frcN S t i).1)), (3, .int (nI ((frcN S t i).2)))]) F dX1_fiercestAwake_48 hl rfl (by decide) rfl (fun ls hl => ?_)
          refine lv_goto (tgt := 7) F.1 F.2.1 dX1_fiercestAwake_51 (by decide) ?_
          have e_1 : oI (frcN S t i).1 = oI (frcN S t (i + 1)).1 := by first | rfl | decide | (simp only [frcN]; rw [if_pos (And.intro h23 (Nat.not_le.mp h34))]; done) | (simp only [frcN]; rw [if_pos (And.intro h23 (Nat.not_le.mp h34))]; exact (oI_succ _).symm) | (simp only [frcN]; rw [if_neg (fun q => h23 q.1)]) | (simp only [frcN]; rw [if_neg (fun q => Nat.not_lt.mpr h34 q.2)])
          rw [e_1] at hl
          have e_2 : (frcN S t i).2 = (frcN S t (i + 1)).2 := by first | rfl | decide | (simp only [frcN]; rw [if_pos (And.intro h23 (Nat.not_le.mp h34))]; done) | (simp only [frcN]; rw [if_pos (And.intro h23 (Nat.not_le.mp h34))]; exact (oI_succ _).symm) | (simp only [frcN]; rw [if_neg (fun q => h23 q.1)]) | (simp only [frcN]; rw [if_neg (fun q => Nat.not_lt.mpr h34 q.2)])
          rw [e_2] at hl
          exact ih7 (i + 1) (by omega) (by omega)  _ _ _ hP hS (lv_sub hl [1, 2, 3, 4, 0] rfl)
        · skip
          refine lv_aload_n F.1 F.2.1 dX1_fiercestAwake_26 rfl (lv_at hl 0 rfl) ?_
          refine k_get (v := .ref (a 4)) F nX1_fiercestAwake_X1 hK.1 hP 0 rfl rfl 2 (by decide) (List.mem_of_getElem? (i := 2) rfl) rfl dX1_fiercestAwake_27 ?_
          refine lv_iload F.1 F.2.1 dX1_fiercestAwake_30 (lv_at hl 4 rfl) ?_
          refine k_iald (f := S 3) (n := 8) F hK.1 hP 2 0 rfl rfl (by omega) (by decide) dX1_fiercestAwake_32 ?_
          have := (hb.2 i).2.1
          refine lv_iload_n F.1 F.2.1 dX1_fiercestAwake_33 rfl (lv_at hl 3 rfl) ?_
          refine k_icmp_le (tgt := 48) F (by omega) (by omega) dX1_fiercestAwake_34 (by decide) (fun h34 => ?_) (fun h34 => ?_)
          · skip
            refine k_inc (k := 4) (lv' := [(4, .int (nI (i + 1))), (0, .ref (a 2)), (1, .int (nI t)), (2, .int (oI (frcN S t i).1)), (3, .int (nI ((frcN S t i).2)))]) F dX1_fiercestAwake_48 hl rfl (by decide) rfl (fun ls hl => ?_)
            refine lv_goto (tgt := 7) F.1 F.2.1 dX1_fiercestAwake_51 (by decide) ?_
            have e_3 : oI (frcN S t i).1 = oI (frcN S t (i + 1)).1 := by first | rfl | decide | (simp only [frcN]; rw [if_pos (And.intro h23 (Nat.not_le.mp h34))]; done) | (simp only [frcN]; rw [if_pos (And.intro h23 (Nat.not_le.mp h34))]; exact (oI_succ _).symm) | (simp only [frcN]; rw [if_neg (fun q => h23 q.1)]) | (simp only [frcN]; rw [if_neg (fun q => Nat.not_lt.mpr h34 q.2)])
            rw [e_3] at hl
            have e_4 : (frcN S t i).2 = (frcN S t (i + 1)).2 := by first | rfl | decide | (simp only [frcN]; rw [if_pos (And.intro h23 (Nat.not_le.mp h34))]; done) | (simp only [frcN]; rw [if_pos (And.intro h23 (Nat.not_le.mp h34))]; exact (oI_succ _).symm) | (simp only [frcN]; rw [if_neg (fun q => h23 q.1)]) | (simp only [frcN]; rw [if_neg (fun q => Nat.not_lt.mpr h34 q.2)])
            rw [e_4] at hl
            exact ih7 (i + 1) (by omega) (by omega)  _ _ _ hP hS (lv_sub hl [1, 2, 3, 4, 0] rfl)
          · skip
            refine lv_aload_n F.1 F.2.1 dX1_fiercestAwake_37 rfl (lv_at hl 0 rfl) ?_
            refine k_get (v := .ref (a 4)) F nX1_fiercestAwake_X1 hK.1 hP 0 rfl rfl 2 (by decide) (List.mem_of_getElem? (i := 2) rfl) rfl dX1_fiercestAwake_38 ?_
            refine lv_iload F.1 F.2.1 dX1_fiercestAwake_41 (lv_at hl 4 rfl) ?_
            refine k_iald (f := S 3) (n := 8) F hK.1 hP 2 0 rfl rfl (by omega) (by decide) dX1_fiercestAwake_43 ?_
            have := (hb.2 i).2.1
            refine lv_istore_n (lv' := [(3, .int (nI (S 3 i))), (0, .ref (a 2)), (1, .int (nI t)), (2, .int (oI (frcN S t i).1)), (4, .int (nI i))]) F.1 F.2.1 dX1_fiercestAwake_44 rfl hl (by decide) rfl (fun ls hl => ?_)
            refine lv_iload F.1 F.2.1 dX1_fiercestAwake_45 (lv_at hl 4 rfl) ?_
            refine lv_istore_n (lv' := [(2, .int (nI i)), (3, .int (nI (S 3 i))), (0, .ref (a 2)), (1, .int (nI t)), (4, .int (nI i))]) F.1 F.2.1 dX1_fiercestAwake_47 rfl hl (by decide) rfl (fun ls hl => ?_)
            refine k_inc (k := 4) (lv' := [(4, .int (nI (i + 1))), (2, .int (nI i)), (3, .int (nI (S 3 i))), (0, .ref (a 2)), (1, .int (nI t))]) F dX1_fiercestAwake_48 hl rfl (by decide) rfl (fun ls hl => ?_)
            refine lv_goto (tgt := 7) F.1 F.2.1 dX1_fiercestAwake_51 (by decide) ?_
            have e_5 : nI i = oI (frcN S t (i + 1)).1 := by first | rfl | decide | (simp only [frcN]; rw [if_pos (And.intro h23 (Nat.not_le.mp h34))]; done) | (simp only [frcN]; rw [if_pos (And.intro h23 (Nat.not_le.mp h34))]; exact (oI_succ _).symm) | (simp only [frcN]; rw [if_neg (fun q => h23 q.1)]) | (simp only [frcN]; rw [if_neg (fun q => Nat.not_lt.mpr h34 q.2)])
            rw [e_5] at hl
            have e_6 : S 3 i = (frcN S t (i + 1)).2 := by first | rfl | decide | (simp only [frcN]; rw [if_pos (And.intro h23 (Nat.not_le.mp h34))]; done) | (simp only [frcN]; rw [if_pos (And.intro h23 (Nat.not_le.mp h34))]; exact (oI_succ _).symm) | (simp only [frcN]; rw [if_neg (fun q => h23 q.1)]) | (simp only [frcN]; rw [if_neg (fun q => Nat.not_lt.mpr h34 q.2)])
            rw [e_6] at hl
            exact ih7 (i + 1) (by omega) (by omega)  _ _ _ hP hS (lv_sub hl [3, 4, 1, 2, 0] rfl)
  have e_7 : (-1) = oI (frcN S t 0).1 := by first | rfl | decide | (simp only [frcN]; rw [if_pos (And.intro h23 (Nat.not_le.mp h34))]; done) | (simp only [frcN]; rw [if_pos (And.intro h23 (Nat.not_le.mp h34))]; exact (oI_succ _).symm) | (simp only [frcN]; rw [if_neg (fun q => h23 q.1)]) | (simp only [frcN]; rw [if_neg (fun q => Nat.not_lt.mpr h34 q.2)])
  rw [e_7] at hl
  have e_8 : 0 = (frcN S t 0).2 := by first | rfl | decide | (simp only [frcN]; rw [if_pos (And.intro h23 (Nat.not_le.mp h34))]; done) | (simp only [frcN]; rw [if_pos (And.intro h23 (Nat.not_le.mp h34))]; exact (oI_succ _).symm) | (simp only [frcN]; rw [if_neg (fun q => h23 q.1)]) | (simp only [frcN]; rw [if_neg (fun q => Nat.not_lt.mpr h34 q.2)])
  rw [e_8] at hl
  exact loop7 ((S 0 1) + 1) 0 (by omega) (by omega)  _ _ _ hP hS (lv_sub hl [3, 4, 2, 1, 0] rfl)
theorem nX1_feed_X1 : ∀ x ∈ wsX10, x ∈ wsX1_feed := fun _ h => List.mem_cons_of_mem _ (List.mem_append_right _ h)
set_option maxRecDepth 100000 in
set_option maxHeartbeats 4000000 in
theorem c_X1_feed (l : Launch) (D : va_G) (cI : ClassId) (a : Nat → Nat) (S : Nat → Nat → Nat) (k : Nat) (hb : Bd S) (hk : k < 8) (hm : 1 ≤ S 3 k) : MV l yX1_feed wsX1_feed 1 15 D [(cI, .int)] [.ref (a 2), .int (nI k)] (wFl cI a S) (wFl cI a (setf (setf (setf S 5 k (S 5 k + 1)) 4 k 3) 3 k (max 1 (S 3 k - 1)))) := by
  refine k_bodyM (cc := cX1_feed) (maxL := 2) (ret := none) (by decide) rfl (Nat.le_of_ble_eq_true rfl) ?_
  intro p e s m args below meth c H ls F hr hlk hl hP hK hD hS
  have F : CallFix p m c cX1_feed 2 s args wsX1_feed RX1 := F
  have hl : lv_has ls 2 [(0, .ref (a 2)), (1, .int (nI k))] := hl
  refine lv_aload_n F.1 F.2.1 dX1_feed_0 rfl (lv_at hl 0 rfl) ?_
  refine k_get (v := .ref (a 6)) F nX1_feed_X1 hK.1 hP 0 rfl rfl 4 (by decide) (List.mem_of_getElem? (i := 1) rfl) rfl dX1_feed_1 ?_
  refine lv_iload_n F.1 F.2.1 dX1_feed_4 rfl (lv_at hl 1 rfl) ?_
  refine lv_dup2_11 F.1 F.2.1 dX1_feed_5 rfl rfl ?_
  refine k_iald (f := S 5) (n := 8) F hK.1 hP 4 0 rfl rfl (by omega) (by decide) dX1_feed_6 ?_
  refine lv_iconst (v := nI 1) F.1 F.2.1 dX1_feed_7 (by decide) ?_
  refine k_iadd F dX1_feed_8 ?_
  refine k_iast (f := S 5) (n := 8) (k := k) (x := (S 5 k + 1)) F hK.1 hP hD hS 4 0 rfl rfl (by omega) (by decide) dX1_feed_9 (wFl cI a (setf S 5 k (S 5 k + 1))) rfl (fun H locs hP hD hS => ?_)
  refine lv_aload_n F.1 F.2.1 dX1_feed_10 rfl (lv_at hl 0 rfl) ?_
  refine k_get (v := .ref (a 5)) F nX1_feed_X1 hK.1 hP 0 rfl rfl 3 (by decide) (List.mem_of_getElem? (i := 2) rfl) rfl dX1_feed_11 ?_
  refine lv_iload_n F.1 F.2.1 dX1_feed_14 rfl (lv_at hl 1 rfl) ?_
  refine lv_iconst (v := nI 3) F.1 F.2.1 dX1_feed_15 (by decide) ?_
  refine k_iast (f := S 4) (n := 8) (k := k) (x := 3) F hK.1 hP hD hS 3 0 rfl rfl (by omega) (by decide) dX1_feed_16 (wFl cI a (setf (setf S 5 k (S 5 k + 1)) 4 k 3)) rfl (fun H locs hP hD hS => ?_)
  refine lv_aload_n F.1 F.2.1 dX1_feed_17 rfl (lv_at hl 0 rfl) ?_
  refine k_get (v := .ref (a 4)) F nX1_feed_X1 hK.1 hP 0 rfl rfl 2 (by decide) (List.mem_of_getElem? (i := 3) rfl) rfl dX1_feed_18 ?_
  refine lv_iload_n F.1 F.2.1 dX1_feed_21 rfl (lv_at hl 1 rfl) ?_
  refine lv_iconst (v := nI 1) F.1 F.2.1 dX1_feed_22 (by decide) ?_
  refine lv_aload_n F.1 F.2.1 dX1_feed_23 rfl (lv_at hl 0 rfl) ?_
  refine k_get (v := .ref (a 4)) F nX1_feed_X1 hK.1 hP 0 rfl rfl 2 (by decide) (List.mem_of_getElem? (i := 3) rfl) rfl dX1_feed_24 ?_
  refine lv_iload_n F.1 F.2.1 dX1_feed_27 rfl (lv_at hl 1 rfl) ?_
  refine k_iald (f := S 3) (n := 8) F hK.1 hP 2 0 rfl rfl (by omega) (by decide) dX1_feed_28 ?_
  have := (hb.2 k).2.1
  refine lv_iconst (v := nI 1) F.1 F.2.1 dX1_feed_29 (by decide) ?_
  refine k_isub F (by omega) dX1_feed_30 ?_
  refine k_max F hl.1 (List.mem_of_getElem? (i := 4) rfl) (List.mem_of_getElem? (i := 5) rfl) (List.mem_of_getElem? (i := 6) rfl) (List.mem_of_getElem? (i := 7) rfl) (Nat.le_of_ble_eq_true rfl) (Nat.le_of_ble_eq_true rfl) ⟨Nat.zero_le _, Nat.zero_le _⟩ (by omega) (by omega) dX1_feed_31 ?_
  refine k_iast (f := S 3) (n := 8) (k := k) (x := (max 1 (S 3 k - 1))) F hK.1 hP hD hS 2 0 rfl rfl (by omega) (by decide) dX1_feed_34 (wFl cI a (setf (setf (setf S 5 k (S 5 k + 1)) 4 k 3) 3 k (max 1 (S 3 k - 1)))) rfl (fun H locs hP hD hS => ?_)
  exact k_retMV F hr hlk hP rfl hS dX1_feed_35
theorem nX1_enrage_X1 : ∀ x ∈ wsX10, x ∈ wsX1_enrage := fun _ h => List.mem_cons_of_mem _ (List.mem_append_right _ h)
set_option maxRecDepth 100000 in
set_option maxHeartbeats 4000000 in
theorem c_X1_enrage (l : Launch) (D : va_G) (cI : ClassId) (a : Nat → Nat) (S : Nat → Nat → Nat) (t : Nat) (hb : Bd S) (ht : t < 2 ^ 31) : MV l yX1_enrage wsX1_enrage 1 22 D [(cI, .int)] [.ref (a 2), .int (nI t)] (wFl cI a S) (wFl cI a (setF S 3 (enrN S t (S 0 1)))) := by
  refine k_bodyM (cc := cX1_enrage) (maxL := 3) (ret := none) (by decide) rfl (Nat.le_of_ble_eq_true rfl) ?_
  intro p e s m args below meth c H ls F hr hlk hl hP hK hD hS
  have F : CallFix p m c cX1_enrage 3 s args wsX1_enrage RX1 := F
  have hl : lv_has ls 3 [(0, .ref (a 2)), (1, .int (nI t))] := hl
  have hn := hb.1
  refine lv_iconst (v := nI 0) F.1 F.2.1 dX1_enrage_0 (by decide) ?_
  refine lv_istore_n (lv' := [(2, .int (nI 0)), (0, .ref (a 2)), (1, .int (nI t))]) F.1 F.2.1 dX1_enrage_1 rfl hl (by decide) rfl (fun ls hl => ?_)
  have loop2 : ∀ (n : Nat) (i : Nat), i ≤ S 0 1 → S 0 1 + 1 ≤ i + n → ∀ (H : Heap) (locs : List Loc) (ls : Array Slot), va_P D vwCl (wFl cI a (setF S 3 (enrN S t i))) H → va_D (va_B (wFl cI a S)) (wFl cI a (setF S 3 (enrN S t i))) → va_S (va_B (wFl cI a S)) s.heap H locs → lv_has ls 3 [(0, .ref (a 2)), (1, .int (nI t)), (2, .int (nI i))] → W p l e (rmN 1 22) s m args below meth c H locs 0 0 (QMV below args s D (wFl cI a S) (wFl cI a (setF S 3 (enrN S t (S 0 1))))) (F0 m 2 ls []) := by
    intro n
    induction n with
    | zero => intro i hi hn; exact absurd hn (by omega)
    | succ n ih2 =>
      intro i hi hn  H locs ls hP hD hS hl
      refine lv_iload_n F.1 F.2.1 dX1_enrage_2 rfl (lv_at hl 2 rfl) ?_
      refine lv_aload_n F.1 F.2.1 dX1_enrage_3 rfl (lv_at hl 0 rfl) ?_
      refine k_get (v := .int (nI (S 0 1))) F nX1_enrage_X1 hK.1 hP 0 rfl rfl 0 (by decide) (List.mem_of_getElem? (i := 1) rfl) rfl dX1_enrage_4 ?_
      refine k_icmp_ge (tgt := 44) F (by omega) (by omega) dX1_enrage_7 (by decide) (fun h7 => ?_) (fun h7 => ?_)
      · skip
        exact k_retMV F hr hlk hP (by rw [show i = S 0 1 by omega]) hS dX1_enrage_44
      · skip
        refine lv_aload_n F.1 F.2.1 dX1_enrage_10 rfl (lv_at hl 0 rfl) ?_
        refine lv_iload_n F.1 F.2.1 dX1_enrage_11 rfl (lv_at hl 2 rfl) ?_
        refine lv_iload_n F.1 F.2.1 dX1_enrage_12 rfl (lv_at hl 1 rfl) ?_
        refine k_pV (n := 2) (rest := []) (v := bI (S 2 i = t ∧ S 4 i = 0)) F (c_X1_isAwakeThere l D cI a (setF S 3 (enrN S t i)) i t hb.k (by first | assumption | omega) (by first | assumption | omega)) gX1_enrage_X1_isAwakeThere rfl (by decide +kernel) ⟨Nat.le_of_ble_eq_true rfl, Nat.le_of_ble_eq_true rfl⟩ rfl hl.1 rfl (Nat.le_of_ble_eq_true rfl) dX1_enrage_13 ⟨Nat.zero_le _, Nat.zero_le _⟩ hK hP hS [0, 1, 2, 3, 4] rfl (q0 := 0) (ci := 1) rfl rfl (fun H locs hP hS => ?_)
        refine k_ifeq_b (tgt := 38) F dX1_enrage_16 (by decide) (fun h16 => ?_) (fun h16 => ?_)
        · skip
          refine k_inc (k := 2) (lv' := [(2, .int (nI (i + 1))), (0, .ref (a 2)), (1, .int (nI t))]) F dX1_enrage_38 hl rfl (by decide) rfl (fun ls hl => ?_)
          refine lv_goto (tgt := 2) F.1 F.2.1 dX1_enrage_41 (by decide) ?_
          have ew : (wFl cI a (setF S 3 (enrN S t i))) = (wFl cI a (setF S 3 (enrN S t (i + 1)))) := by first | rw [enrN_0] | rw [enrN_at, enrN_y h16] | rw [enrN_n h16]
          rw [ew] at hP hD
          exact ih2 (i + 1) (by omega) (by omega)  _ _ _ hP hD hS (lv_sub hl [1, 2, 0] rfl)
        · skip
          refine lv_aload_n F.1 F.2.1 dX1_enrage_19 rfl (lv_at hl 0 rfl) ?_
          refine k_get (v := .ref (a 4)) F nX1_enrage_X1 hK.1 hP 0 rfl rfl 2 (by decide) (List.mem_of_getElem? (i := 2) rfl) rfl dX1_enrage_20 ?_
          refine lv_iload_n F.1 F.2.1 dX1_enrage_23 rfl (lv_at hl 2 rfl) ?_
          refine lv_bipush (v := nI 9) F.1 F.2.1 dX1_enrage_24 (by decide) ?_
          refine lv_aload_n F.1 F.2.1 dX1_enrage_26 rfl (lv_at hl 0 rfl) ?_
          refine k_get (v := .ref (a 4)) F nX1_enrage_X1 hK.1 hP 0 rfl rfl 2 (by decide) (List.mem_of_getElem? (i := 2) rfl) rfl dX1_enrage_27 ?_
          refine lv_iload_n F.1 F.2.1 dX1_enrage_30 rfl (lv_at hl 2 rfl) ?_
          refine k_iald (f := (enrN S t i)) (n := 8) F hK.1 hP 2 0 rfl rfl (by omega) (by decide) dX1_enrage_31 ?_
          have hv9 : (enrN S t i) i ≤ 9 := by rw [enrN_at]; exact (hb.2 i).2.1
          refine lv_iconst (v := nI 1) F.1 F.2.1 dX1_enrage_32 (by decide) ?_
          refine k_iadd F dX1_enrage_33 ?_
          refine k_min F hl.1 (List.mem_of_getElem? (i := 3) rfl) (List.mem_of_getElem? (i := 4) rfl) (List.mem_of_getElem? (i := 5) rfl) (List.mem_of_getElem? (i := 6) rfl) (Nat.le_of_ble_eq_true rfl) (Nat.le_of_ble_eq_true rfl) ⟨Nat.zero_le _, Nat.zero_le _⟩ (by omega) (by omega) dX1_enrage_34 ?_
          refine k_iast (f := (enrN S t i)) (n := 8) (k := i) (x := (min 9 ((enrN S t i) i + 1))) F hK.1 hP hD hS 2 0 rfl rfl (by omega) (by decide) dX1_enrage_37 (wFl cI a (setf (setF S 3 (enrN S t i)) 3 i (min 9 ((enrN S t i) i + 1)))) rfl (fun H locs hP hD hS => ?_)
          refine k_inc (k := 2) (lv' := [(2, .int (nI (i + 1))), (0, .ref (a 2)), (1, .int (nI t))]) F dX1_enrage_38 hl rfl (by decide) rfl (fun ls hl => ?_)
          refine lv_goto (tgt := 2) F.1 F.2.1 dX1_enrage_41 (by decide) ?_
          have ew : (wFl cI a (setf (setF S 3 (enrN S t i)) 3 i (min 9 ((enrN S t i) i + 1)))) = (wFl cI a (setF S 3 (enrN S t (i + 1)))) := by first | rw [enrN_0] | rw [enrN_at, enrN_y h16] | rw [enrN_n h16]
          rw [ew] at hP hD
          exact ih2 (i + 1) (by omega) (by omega)  _ _ _ hP hD hS (lv_sub hl [1, 2, 0] rfl)
  have ew : (wFl cI a S) = (wFl cI a (setF S 3 (enrN S t 0))) := by first | rw [enrN_0] | rw [enrN_at, enrN_y h16] | rw [enrN_n h16]
  rw [ew] at hP hD
  exact loop2 ((S 0 1) + 1) 0 (by omega) (by omega)  _ _ _ hP hD hS (lv_sub hl [1, 2, 0] rfl)
theorem nX1_wakeByABeat_X1 : ∀ x ∈ wsX10, x ∈ wsX1_wakeByABeat := fun _ h => List.mem_cons_of_mem _ (List.mem_append_right _ h)
set_option maxRecDepth 100000 in
set_option maxHeartbeats 4000000 in
theorem c_X1_wakeByABeat (l : Launch) (D : va_G) (cI : ClassId) (a : Nat → Nat) (S : Nat → Nat → Nat) (hb : Bd S) : MV l yX1_wakeByABeat wsX1_wakeByABeat 0 0 D [(cI, .int)] [.ref (a 2)] (wFl cI a S) (wFl cI a (setF S 4 (wakN S (S 0 1)))) := by
  refine k_bodyM (cc := cX1_wakeByABeat) (maxL := 2) (ret := none) (by decide) rfl (Nat.le_of_ble_eq_true rfl) ?_
  intro p e s m args below meth c H ls F hr hlk hl hP hK hD hS
  have F : CallFix p m c cX1_wakeByABeat 2 s args wsX1_wakeByABeat RX1 := F
  have hl : lv_has ls 2 [(0, .ref (a 2))] := hl
  have hn := hb.1
  refine lv_iconst (v := nI 0) F.1 F.2.1 dX1_wakeByABeat_0 (by decide) ?_
  refine lv_istore_n (lv' := [(1, .int (nI 0)), (0, .ref (a 2))]) F.1 F.2.1 dX1_wakeByABeat_1 rfl hl (by decide) rfl (fun ls hl => ?_)
  have loop2 : ∀ (n : Nat) (i : Nat), i ≤ S 0 1 → S 0 1 + 1 ≤ i + n → ∀ (H : Heap) (locs : List Loc) (ls : Array Slot), va_P D vwCl (wFl cI a (setF S 4 (wakN S i))) H → va_D (va_B (wFl cI a S)) (wFl cI a (setF S 4 (wakN S i))) → va_S (va_B (wFl cI a S)) s.heap H locs → lv_has ls 2 [(0, .ref (a 2)), (1, .int (nI i))] → W p l e (rmN 0 0) s m args below meth c H locs 0 0 (QMV below args s D (wFl cI a S) (wFl cI a (setF S 4 (wakN S (S 0 1))))) (F0 m 2 ls []) := by
    intro n
    induction n with
    | zero => intro i hi hn; exact absurd hn (by omega)
    | succ n ih2 =>
      intro i hi hn  H locs ls hP hD hS hl
      refine lv_iload_n F.1 F.2.1 dX1_wakeByABeat_2 rfl (lv_at hl 1 rfl) ?_
      refine lv_aload_n F.1 F.2.1 dX1_wakeByABeat_3 rfl (lv_at hl 0 rfl) ?_
      refine k_get (v := .int (nI (S 0 1))) F nX1_wakeByABeat_X1 hK.1 hP 0 rfl rfl 0 (by decide) (List.mem_of_getElem? (i := 1) rfl) rfl dX1_wakeByABeat_4 ?_
      refine k_icmp_ge (tgt := 35) F (by omega) (by omega) dX1_wakeByABeat_7 (by decide) (fun h7 => ?_) (fun h7 => ?_)
      · skip
        exact k_retMV F hr hlk hP (by rw [show i = S 0 1 by omega]) hS dX1_wakeByABeat_35
      · skip
        refine lv_aload_n F.1 F.2.1 dX1_wakeByABeat_10 rfl (lv_at hl 0 rfl) ?_
        refine k_get (v := .ref (a 5)) F nX1_wakeByABeat_X1 hK.1 hP 0 rfl rfl 3 (by decide) (List.mem_of_getElem? (i := 2) rfl) rfl dX1_wakeByABeat_11 ?_
        refine lv_iload_n F.1 F.2.1 dX1_wakeByABeat_14 rfl (lv_at hl 1 rfl) ?_
        refine k_iald (f := (wakN S i)) (n := 8) F hK.1 hP 3 0 rfl rfl (by omega) (by decide) dX1_wakeByABeat_15 ?_
        have hv9 : (wakN S i) i ≤ 3 := by rw [wakN_at]; exact (hb.2 i).2.2
        refine k_if_le (tgt := 29) F (by omega) dX1_wakeByABeat_16 (by decide) (fun h16 => ?_) (fun h16 => ?_)
        · skip
          refine k_inc (k := 1) (lv' := [(1, .int (nI (i + 1))), (0, .ref (a 2))]) F dX1_wakeByABeat_29 hl rfl (by decide) rfl (fun ls hl => ?_)
          refine lv_goto (tgt := 2) F.1 F.2.1 dX1_wakeByABeat_32 (by decide) ?_
          have ew : (wFl cI a (setF S 4 (wakN S i))) = (wFl cI a (setF S 4 (wakN S (i + 1)))) := by first | rw [wakN_0] | rw [wakN_at, wakN_y] | rw [wakN_n ((wakN_at S i).symm.trans h16)]
          rw [ew] at hP hD
          exact ih2 (i + 1) (by omega) (by omega)  _ _ _ hP hD hS (lv_sub hl [1, 0] rfl)
        · skip
          refine lv_aload_n F.1 F.2.1 dX1_wakeByABeat_19 rfl (lv_at hl 0 rfl) ?_
          refine k_get (v := .ref (a 5)) F nX1_wakeByABeat_X1 hK.1 hP 0 rfl rfl 3 (by decide) (List.mem_of_getElem? (i := 2) rfl) rfl dX1_wakeByABeat_20 ?_
          refine lv_iload_n F.1 F.2.1 dX1_wakeByABeat_23 rfl (lv_at hl 1 rfl) ?_
          refine lv_dup2_11 F.1 F.2.1 dX1_wakeByABeat_24 rfl rfl ?_
          refine k_iald (f := (wakN S i)) (n := 8) F hK.1 hP 3 0 rfl rfl (by omega) (by decide) dX1_wakeByABeat_25 ?_
          have hv9 : (wakN S i) i ≤ 3 := by rw [wakN_at]; exact (hb.2 i).2.2
          refine lv_iconst (v := nI 1) F.1 F.2.1 dX1_wakeByABeat_26 (by decide) ?_
          refine k_isub F (by omega) dX1_wakeByABeat_27 ?_
          refine k_iast (f := (wakN S i)) (n := 8) (k := i) (x := ((wakN S i) i - 1)) F hK.1 hP hD hS 3 0 rfl rfl (by omega) (by decide) dX1_wakeByABeat_28 (wFl cI a (setf (setF S 4 (wakN S i)) 4 i ((wakN S i) i - 1))) rfl (fun H locs hP hD hS => ?_)
          refine k_inc (k := 1) (lv' := [(1, .int (nI (i + 1))), (0, .ref (a 2))]) F dX1_wakeByABeat_29 hl rfl (by decide) rfl (fun ls hl => ?_)
          refine lv_goto (tgt := 2) F.1 F.2.1 dX1_wakeByABeat_32 (by decide) ?_
          have ew : (wFl cI a (setf (setF S 4 (wakN S i)) 4 i ((wakN S i) i - 1))) = (wFl cI a (setF S 4 (wakN S (i + 1)))) := by first | rw [wakN_0] | rw [wakN_at, wakN_y] | rw [wakN_n ((wakN_at S i).symm.trans h16)]
          rw [ew] at hP hD
          exact ih2 (i + 1) (by omega) (by omega)  _ _ _ hP hD hS (lv_sub hl [1, 0] rfl)
  have ew : (wFl cI a S) = (wFl cI a (setF S 4 (wakN S 0))) := by first | rw [wakN_0] | rw [wakN_at, wakN_y] | rw [wakN_n ((wakN_at S i).symm.trans h16)]
  rw [ew] at hP hD
  exact loop2 ((S 0 1) + 1) 0 (by omega) (by omega)  _ _ _ hP hD hS (lv_sub hl [1, 0] rfl)
theorem nX1_sumOfTempers_X1 : ∀ x ∈ wsX10, x ∈ wsX1_sumOfTempers := fun _ h => List.mem_cons_of_mem _ (List.mem_append_right _ h)
set_option maxRecDepth 100000 in
set_option maxHeartbeats 4000000 in
theorem c_X1_sumOfTempers (l : Launch) (D : va_G) (cI : ClassId) (a : Nat → Nat) (S : Nat → Nat → Nat) (hb : Bd S) : PI l yX1_sumOfTempers wsX1_sumOfTempers 0 0 D [(cI, .int)] [.ref (a 2)] (wFl cI a S) (nI (sumN S (S 0 1))) := by
  refine k_bodyP (cc := cX1_sumOfTempers) (maxL := 3) (ret := (some .int)) (by decide) rfl (Nat.le_of_ble_eq_true rfl) ?_
  intro p e s m args below meth c H ls F hr hlk hl hP hK hS
  have F : CallFix p m c cX1_sumOfTempers 3 s args wsX1_sumOfTempers RX1 := F
  have hl : lv_has ls 3 [(0, .ref (a 2))] := hl
  have hn := hb.1
  refine lv_iconst (v := nI 0) F.1 F.2.1 dX1_sumOfTempers_0 (by decide) ?_
  refine lv_istore_n (lv' := [(1, .int (nI 0)), (0, .ref (a 2))]) F.1 F.2.1 dX1_sumOfTempers_1 rfl hl (by decide) rfl (fun ls hl => ?_)
  refine lv_iconst (v := nI 0) F.1 F.2.1 dX1_sumOfTempers_2 (by decide) ?_
  refine lv_istore_n (lv' := [(2, .int (nI 0)), (1, .int (nI 0)), (0, .ref (a 2))]) F.1 F.2.1 dX1_sumOfTempers_3 rfl hl (by decide) rfl (fun ls hl => ?_)
  have loop4 : ∀ (n : Nat) (i : Nat), i ≤ S 0 1 → S 0 1 + 1 ≤ i + n → ∀ (H : Heap) (locs : List Loc) (ls : Array Slot), va_P D vwCl (wFl cI a S) H → va_S (fun _ => False) s.heap H locs → lv_has ls 3 [(0, .ref (a 2)), (1, .int (nI (sumN S i))), (2, .int (nI i))] → W p l e (rmN 0 0) s m args below meth c H locs 0 0 (QPI below args s (nI (sumN S (S 0 1)))) (F0 m 4 ls []) := by
    intro n
    induction n with
    | zero => intro i hi hn; exact absurd hn (by omega)
    | succ n ih4 =>
      intro i hi hn  H locs ls hP hS hl
      refine lv_iload_n F.1 F.2.1 dX1_sumOfTempers_4 rfl (lv_at hl 2 rfl) ?_
      refine lv_aload_n F.1 F.2.1 dX1_sumOfTempers_5 rfl (lv_at hl 0 rfl) ?_
      refine k_get (v := .int (nI (S 0 1))) F nX1_sumOfTempers_X1 hK.1 hP 0 rfl rfl 0 (by decide) (List.mem_of_getElem? (i := 1) rfl) rfl dX1_sumOfTempers_6 ?_
      refine k_icmp_ge (tgt := 27) F (by omega) (by omega) dX1_sumOfTempers_9 (by decide) (fun h9 => ?_) (fun h9 => ?_)
      · skip
        refine lv_iload_n F.1 F.2.1 dX1_sumOfTempers_27 rfl (lv_at hl 1 rfl) ?_
        exact k_retP F hr hlk hS (by rw [show i = S 0 1 by omega]) rfl dX1_sumOfTempers_28
      · skip
        refine lv_iload_n F.1 F.2.1 dX1_sumOfTempers_12 rfl (lv_at hl 1 rfl) ?_
        refine lv_aload_n F.1 F.2.1 dX1_sumOfTempers_13 rfl (lv_at hl 0 rfl) ?_
        refine k_get (v := .ref (a 4)) F nX1_sumOfTempers_X1 hK.1 hP 0 rfl rfl 2 (by decide) (List.mem_of_getElem? (i := 2) rfl) rfl dX1_sumOfTempers_14 ?_
        refine lv_iload_n F.1 F.2.1 dX1_sumOfTempers_17 rfl (lv_at hl 2 rfl) ?_
        refine k_iald (f := S 3) (n := 8) F hK.1 hP 2 0 rfl rfl (by omega) (by decide) dX1_sumOfTempers_18 ?_
        refine k_iadd F dX1_sumOfTempers_19 ?_
        refine lv_istore_n (lv' := [(1, .int (nI (sumN S i + S 3 i))), (0, .ref (a 2)), (2, .int (nI i))]) F.1 F.2.1 dX1_sumOfTempers_20 rfl hl (by decide) rfl (fun ls hl => ?_)
        refine k_inc (k := 2) (lv' := [(2, .int (nI (i + 1))), (1, .int (nI (sumN S i + S 3 i))), (0, .ref (a 2))]) F dX1_sumOfTempers_21 hl rfl (by decide) rfl (fun ls hl => ?_)
        refine lv_goto (tgt := 4) F.1 F.2.1 dX1_sumOfTempers_24 (by decide) ?_
        have e_1 : (sumN S i + S 3 i) = sumN S (i + 1) := by first | rfl | omega | (simp [*]; done)
        rw [e_1] at hl
        exact ih4 (i + 1) (by omega) (by omega)  _ _ _ hP hS (lv_sub hl [2, 1, 0] rfl)
  have e_2 : 0 = sumN S 0 := by first | rfl | omega | (simp [*]; done)
  rw [e_2] at hl
  exact loop4 ((S 0 1) + 1) 0 (by omega) (by omega)  _ _ _ hP hS (lv_sub hl [2, 1, 0] rfl)
theorem nX1_putGoose_X1 : ∀ x ∈ wsX10, x ∈ wsX1_putGoose := fun _ h => List.mem_cons_of_mem _ (List.mem_append_right _ h)
set_option maxRecDepth 100000 in
set_option maxHeartbeats 4000000 in
theorem c_X1_putGoose (l : Launch) (D : va_G) (cI : ClassId) (a : Nat → Nat) (S : Nat → Nat → Nat) (g : Nat) (x : Nat) (hk : S 0 1 < 8) : MI l yX1_putGoose wsX1_putGoose 0 0 D [(cI, .int)] [.ref (a 2), .int (nI g), .int (nI x)] (wFl cI a S) (wFl cI a (setf (setf (setf S 2 (S 0 1) g) 3 (S 0 1) x) 0 1 (S 0 1 + 1))) (nI (S 0 1)) := by
  refine k_bodyM (cc := cX1_putGoose) (maxL := 4) (ret := (some .int)) (by decide) rfl (Nat.le_of_ble_eq_true rfl) ?_
  intro p e s m args below meth c H ls F hr hlk hl hP hK hD hS
  have F : CallFix p m c cX1_putGoose 4 s args wsX1_putGoose RX1 := F
  have hl : lv_has ls 4 [(0, .ref (a 2)), (1, .int (nI g)), (2, .int (nI x))] := hl
  refine lv_aload_n F.1 F.2.1 dX1_putGoose_0 rfl (lv_at hl 0 rfl) ?_
  refine k_get (v := .int (nI (S 0 1))) F nX1_putGoose_X1 hK.1 hP 0 rfl rfl 0 (by decide) (List.mem_of_getElem? (i := 1) rfl) rfl dX1_putGoose_1 ?_
  refine lv_istore_n (lv' := [(3, .int (nI (S 0 1))), (0, .ref (a 2)), (1, .int (nI g)), (2, .int (nI x))]) F.1 F.2.1 dX1_putGoose_4 rfl hl (by decide) rfl (fun ls hl => ?_)
  refine lv_aload_n F.1 F.2.1 dX1_putGoose_5 rfl (lv_at hl 1 rfl) ?_
  refine k_get (v := .ref (a 3)) F nX1_putGoose_X1 hK.1 hP 0 rfl rfl 1 (by decide) (List.mem_of_getElem? (i := 2) rfl) rfl dX1_putGoose_6 ?_
  refine lv_iload_n F.1 F.2.1 dX1_putGoose_9 rfl (lv_at hl 0 rfl) ?_
  refine lv_iload_n F.1 F.2.1 dX1_putGoose_10 rfl (lv_at hl 2 rfl) ?_
  refine k_iast (f := S 2) (n := 8) (k := (S 0 1)) (x := g) F hK.1 hP hD hS 1 0 rfl rfl (by omega) (by decide) dX1_putGoose_11 (wFl cI a (setf S 2 (S 0 1) g)) rfl (fun H locs hP hD hS => ?_)
  refine lv_aload_n F.1 F.2.1 dX1_putGoose_12 rfl (lv_at hl 1 rfl) ?_
  refine k_get (v := .ref (a 4)) F nX1_putGoose_X1 hK.1 hP 0 rfl rfl 2 (by decide) (List.mem_of_getElem? (i := 3) rfl) rfl dX1_putGoose_13 ?_
  refine lv_iload_n F.1 F.2.1 dX1_putGoose_16 rfl (lv_at hl 0 rfl) ?_
  refine lv_iload_n F.1 F.2.1 dX1_putGoose_17 rfl (lv_at hl 3 rfl) ?_
  refine k_iast (f := S 3) (n := 8) (k := (S 0 1)) (x := x) F hK.1 hP hD hS 2 0 rfl rfl (by omega) (by decide) dX1_putGoose_18 (wFl cI a (setf (setf S 2 (S 0 1) g) 3 (S 0 1) x)) rfl (fun H locs hP hD hS => ?_)
  refine lv_aload_n F.1 F.2.1 dX1_putGoose_19 rfl (lv_at hl 1 rfl) ?_
  refine lv_dup F.1 F.2.1 dX1_putGoose_20 rfl ?_
  refine k_get (v := .int (nI (S 0 1))) F nX1_putGoose_X1 hK.1 hP 0 rfl rfl 0 (by decide) (List.mem_of_getElem? (i := 1) rfl) rfl dX1_putGoose_21 ?_
  refine lv_iconst (v := nI 1) F.1 F.2.1 dX1_putGoose_24 (by decide) ?_
  refine k_iadd F dX1_putGoose_25 ?_
  refine k_put F nX1_putGoose_X1 tyX1 tyX1_ok nmX1 hK.1 hP hD hS 0 rfl rfl 0 (by decide) (List.mem_of_getElem? (i := 1) rfl) rfl (by decide +kernel) (Nat.le_of_ble_eq_true rfl) dX1_putGoose_26 (wFl cI a (setf (setf (setf S 2 (S 0 1) g) 3 (S 0 1) x) 0 1 (S 0 1 + 1))) rfl (fun H locs hP hD hS => ?_)
  refine lv_iload_n F.1 F.2.1 dX1_putGoose_29 rfl (lv_at hl 0 rfl) ?_
  exact k_retMI F hr hlk hP rfl hS (by first | rfl | (simp [*]; done) | omega) rfl dX1_putGoose_30
theorem nX2_hasGuest_X2 : ∀ x ∈ wsX20, x ∈ wsX2_hasGuest := fun _ h => List.mem_cons_of_mem _ (List.mem_append_right _ h)
set_option maxRecDepth 100000 in
set_option maxHeartbeats 4000000 in
theorem c_X2_hasGuest (l : Launch) (D : va_G) (cI : ClassId) (a : Nat → Nat) (S : Nat → Nat → Nat) (g : Int32) : PI l yX2_hasGuest wsX2_hasGuest 0 0 D [(cI, .int)] [.ref (a 7), .int g] (wGu cI a S) (bI (0 ≤ g ∧ g < nI (S 0 2))) := by
  refine k_bodyP (cc := cX2_hasGuest) (maxL := 2) (ret := (some .boolean)) (by decide) rfl (Nat.le_of_ble_eq_true rfl) ?_
  intro p e s m args below meth c H ls F hr hlk hl hP hK hS
  have F : CallFix p m c cX2_hasGuest 2 s args wsX2_hasGuest RX2 := F
  have hl : lv_has ls 2 [(0, .ref (a 7)), (1, .int g)] := hl
  refine lv_iload_n F.1 F.2.1 dX2_hasGuest_0 rfl (lv_at hl 1 rfl) ?_
  refine lv_if_lt (tgt := 16) F.1 F.2.1 dX2_hasGuest_1 (by decide) (fun h1 => ?_) (fun h1 => ?_)
  · skip
    refine lv_iconst (v := nI 0) F.1 F.2.1 dX2_hasGuest_16 (by decide) ?_
    exact k_retP F hr hlk hS (fin0 (by first | exact fun q => absurd h1 (Int32.not_lt.mpr q.1) | exact fun q => absurd h9 (Int32.not_le.mpr q.2))) (by first | rfl | (split <;> rfl)) dX2_hasGuest_17
  · skip
    refine lv_iload_n F.1 F.2.1 dX2_hasGuest_4 rfl (lv_at hl 1 rfl) ?_
    refine lv_aload_n F.1 F.2.1 dX2_hasGuest_5 rfl (lv_at hl 0 rfl) ?_
    refine k_get (v := .int (nI (S 0 2))) F nX2_hasGuest_X2 hK.1 hP 0 rfl rfl 0 (by decide) (List.mem_of_getElem? (i := 1) rfl) rfl dX2_hasGuest_6 ?_
    refine lv_icmp_ge (tgt := 16) F.1 F.2.1 dX2_hasGuest_9 (by decide) (fun h9 => ?_) (fun h9 => ?_)
    · skip
      refine lv_iconst (v := nI 0) F.1 F.2.1 dX2_hasGuest_16 (by decide) ?_
      exact k_retP F hr hlk hS (fin0 (by first | exact fun q => absurd h1 (Int32.not_lt.mpr q.1) | exact fun q => absurd h9 (Int32.not_le.mpr q.2))) (by first | rfl | (split <;> rfl)) dX2_hasGuest_17
    · skip
      refine lv_iconst (v := nI 1) F.1 F.2.1 dX2_hasGuest_12 (by decide) ?_
      refine lv_goto (tgt := 17) F.1 F.2.1 dX2_hasGuest_13 (by decide) ?_
      exact k_retP F hr hlk hS (fin1 (by exact ⟨Int32.not_lt.mp h1, Int32.not_le.mp h9⟩)) (by first | rfl | (split <;> rfl)) dX2_hasGuest_17
theorem nX2_putGuest_X2 : ∀ x ∈ wsX20, x ∈ wsX2_putGuest := fun _ h => List.mem_cons_of_mem _ (List.mem_append_right _ h)
set_option maxRecDepth 100000 in
set_option maxHeartbeats 4000000 in
theorem c_X2_putGuest (l : Launch) (D : va_G) (cI : ClassId) (a : Nat → Nat) (S : Nat → Nat → Nat) (r : Nat) (v : Nat) (x : Nat) (hk : S 0 2 < 8) : MI l yX2_putGuest wsX2_putGuest 0 0 D [(cI, .int)] [.ref (a 7), .int (nI r), .int (nI v), .int (nI x)] (wGu cI a S) (wGu cI a (setf (setf (setf (setf S 6 (S 0 2) r) 9 (S 0 2) v) 8 (S 0 2) x) 0 2 (S 0 2 + 1))) (nI (S 0 2)) := by
  refine k_bodyM (cc := cX2_putGuest) (maxL := 5) (ret := (some .int)) (by decide) rfl (Nat.le_of_ble_eq_true rfl) ?_
  intro p e s m args below meth c H ls F hr hlk hl hP hK hD hS
  have F : CallFix p m c cX2_putGuest 5 s args wsX2_putGuest RX2 := F
  have hl : lv_has ls 5 [(0, .ref (a 7)), (1, .int (nI r)), (2, .int (nI v)), (3, .int (nI x))] := hl
  refine lv_aload_n F.1 F.2.1 dX2_putGuest_0 rfl (lv_at hl 0 rfl) ?_
  refine k_get (v := .int (nI (S 0 2))) F nX2_putGuest_X2 hK.1 hP 0 rfl rfl 0 (by decide) (List.mem_of_getElem? (i := 1) rfl) rfl dX2_putGuest_1 ?_
  refine lv_istore (lv' := [(4, .int (nI (S 0 2))), (0, .ref (a 7)), (1, .int (nI r)), (2, .int (nI v)), (3, .int (nI x))]) F.1 F.2.1 dX2_putGuest_4 hl (by decide) rfl (fun ls hl => ?_)
  refine lv_aload_n F.1 F.2.1 dX2_putGuest_6 rfl (lv_at hl 1 rfl) ?_
  refine k_get (v := .ref (a 8)) F nX2_putGuest_X2 hK.1 hP 0 rfl rfl 1 (by decide) (List.mem_of_getElem? (i := 2) rfl) rfl dX2_putGuest_7 ?_
  refine lv_iload F.1 F.2.1 dX2_putGuest_10 (lv_at hl 0 rfl) ?_
  refine lv_iload_n F.1 F.2.1 dX2_putGuest_12 rfl (lv_at hl 2 rfl) ?_
  refine k_iast (f := S 6) (n := 8) (k := (S 0 2)) (x := r) F hK.1 hP hD hS 1 0 rfl rfl (by omega) (by decide) dX2_putGuest_13 (wGu cI a (setf S 6 (S 0 2) r)) rfl (fun H locs hP hD hS => ?_)
  refine lv_aload_n F.1 F.2.1 dX2_putGuest_14 rfl (lv_at hl 1 rfl) ?_
  refine k_get (v := .ref (a 9)) F nX2_putGuest_X2 hK.1 hP 0 rfl rfl 2 (by decide) (List.mem_of_getElem? (i := 3) rfl) rfl dX2_putGuest_15 ?_
  refine lv_iload F.1 F.2.1 dX2_putGuest_18 (lv_at hl 0 rfl) ?_
  refine lv_iload_n F.1 F.2.1 dX2_putGuest_20 rfl (lv_at hl 3 rfl) ?_
  refine k_iast (f := S 9) (n := 8) (k := (S 0 2)) (x := v) F hK.1 hP hD hS 2 0 rfl rfl (by omega) (by decide) dX2_putGuest_21 (wGu cI a (setf (setf S 6 (S 0 2) r) 9 (S 0 2) v)) rfl (fun H locs hP hD hS => ?_)
  refine lv_aload_n F.1 F.2.1 dX2_putGuest_22 rfl (lv_at hl 1 rfl) ?_
  refine k_get (v := .ref (a 10)) F nX2_putGuest_X2 hK.1 hP 0 rfl rfl 3 (by decide) (List.mem_of_getElem? (i := 4) rfl) rfl dX2_putGuest_23 ?_
  refine lv_iload F.1 F.2.1 dX2_putGuest_26 (lv_at hl 0 rfl) ?_
  refine lv_iload_n F.1 F.2.1 dX2_putGuest_28 rfl (lv_at hl 4 rfl) ?_
  refine k_iast (f := S 8) (n := 8) (k := (S 0 2)) (x := x) F hK.1 hP hD hS 3 0 rfl rfl (by omega) (by decide) dX2_putGuest_29 (wGu cI a (setf (setf (setf S 6 (S 0 2) r) 9 (S 0 2) v) 8 (S 0 2) x)) rfl (fun H locs hP hD hS => ?_)
  refine lv_aload_n F.1 F.2.1 dX2_putGuest_30 rfl (lv_at hl 1 rfl) ?_
  refine lv_dup F.1 F.2.1 dX2_putGuest_31 rfl ?_
  refine k_get (v := .int (nI (S 0 2))) F nX2_putGuest_X2 hK.1 hP 0 rfl rfl 0 (by decide) (List.mem_of_getElem? (i := 1) rfl) rfl dX2_putGuest_32 ?_
  refine lv_iconst (v := nI 1) F.1 F.2.1 dX2_putGuest_35 (by decide) ?_
  refine k_iadd F dX2_putGuest_36 ?_
  refine k_put F nX2_putGuest_X2 tyX2 tyX2_ok nmX2 hK.1 hP hD hS 0 rfl rfl 0 (by decide) (List.mem_of_getElem? (i := 1) rfl) rfl (by decide +kernel) (Nat.le_of_ble_eq_true rfl) dX2_putGuest_37 (wGu cI a (setf (setf (setf (setf S 6 (S 0 2) r) 9 (S 0 2) v) 8 (S 0 2) x) 0 2 (S 0 2 + 1))) rfl (fun H locs hP hD hS => ?_)
  refine lv_iload F.1 F.2.1 dX2_putGuest_40 (lv_at hl 0 rfl) ?_
  exact k_retMI F hr hlk hP rfl hS (by first | rfl | (simp [*]; done) | omega) rfl dX2_putGuest_42
theorem nX2_fallBack_X2 : ∀ x ∈ wsX20, x ∈ wsX2_fallBack := fun _ h => List.mem_cons_of_mem _ (List.mem_append_right _ h)
set_option maxRecDepth 100000 in
set_option maxHeartbeats 4000000 in
theorem c_X2_fallBack (l : Launch) (D : va_G) (cI : ClassId) (a : Nat → Nat) (S : Nat → Nat → Nat) (g : Nat) (x : Nat) (hk : g < 8) (hb7 : S 7 g ≤ 6) (hb9 : S 9 g ≤ 20) : MV l yX2_fallBack wsX2_fallBack 1 15 D [(cI, .int)] [.ref (a 7), .int (nI g), .int (nI x)] (wGu cI a S) (wGu cI a (setf (setf (setf S 10 g x) 9 g (min 20 (S 9 g + 1))) 7 g (S 7 g - 1))) := by
  refine k_bodyM (cc := cX2_fallBack) (maxL := 3) (ret := none) (by decide) rfl (Nat.le_of_ble_eq_true rfl) ?_
  intro p e s m args below meth c H ls F hr hlk hl hP hK hD hS
  have F : CallFix p m c cX2_fallBack 3 s args wsX2_fallBack RX2 := F
  have hl : lv_has ls 3 [(0, .ref (a 7)), (1, .int (nI g)), (2, .int (nI x))] := hl
  refine lv_aload_n F.1 F.2.1 dX2_fallBack_0 rfl (lv_at hl 0 rfl) ?_
  refine k_get (v := .ref (a 12)) F nX2_fallBack_X2 hK.1 hP 0 rfl rfl 5 (by decide) (List.mem_of_getElem? (i := 1) rfl) rfl dX2_fallBack_1 ?_
  refine lv_iload_n F.1 F.2.1 dX2_fallBack_4 rfl (lv_at hl 1 rfl) ?_
  refine lv_iload_n F.1 F.2.1 dX2_fallBack_5 rfl (lv_at hl 2 rfl) ?_
  refine k_iast (f := S 10) (n := 8) (k := g) (x := x) F hK.1 hP hD hS 5 0 rfl rfl (by omega) (by decide) dX2_fallBack_6 (wGu cI a (setf S 10 g x)) rfl (fun H locs hP hD hS => ?_)
  refine lv_aload_n F.1 F.2.1 dX2_fallBack_7 rfl (lv_at hl 0 rfl) ?_
  refine k_get (v := .ref (a 9)) F nX2_fallBack_X2 hK.1 hP 0 rfl rfl 2 (by decide) (List.mem_of_getElem? (i := 2) rfl) rfl dX2_fallBack_8 ?_
  refine lv_iload_n F.1 F.2.1 dX2_fallBack_11 rfl (lv_at hl 1 rfl) ?_
  refine lv_bipush (v := nI 20) F.1 F.2.1 dX2_fallBack_12 (by decide) ?_
  refine lv_aload_n F.1 F.2.1 dX2_fallBack_14 rfl (lv_at hl 0 rfl) ?_
  refine k_get (v := .ref (a 9)) F nX2_fallBack_X2 hK.1 hP 0 rfl rfl 2 (by decide) (List.mem_of_getElem? (i := 2) rfl) rfl dX2_fallBack_15 ?_
  refine lv_iload_n F.1 F.2.1 dX2_fallBack_18 rfl (lv_at hl 1 rfl) ?_
  refine k_iald (f := S 9) (n := 8) F hK.1 hP 2 0 rfl rfl (by omega) (by decide) dX2_fallBack_19 ?_
  refine lv_iconst (v := nI 1) F.1 F.2.1 dX2_fallBack_20 (by decide) ?_
  refine k_iadd F dX2_fallBack_21 ?_
  refine k_min F hl.1 (List.mem_of_getElem? (i := 3) rfl) (List.mem_of_getElem? (i := 4) rfl) (List.mem_of_getElem? (i := 5) rfl) (List.mem_of_getElem? (i := 6) rfl) (Nat.le_of_ble_eq_true rfl) (Nat.le_of_ble_eq_true rfl) ⟨Nat.zero_le _, Nat.zero_le _⟩ (by omega) (by omega) dX2_fallBack_22 ?_
  refine k_iast (f := S 9) (n := 8) (k := g) (x := (min 20 (S 9 g + 1))) F hK.1 hP hD hS 2 0 rfl rfl (by omega) (by decide) dX2_fallBack_25 (wGu cI a (setf (setf S 10 g x) 9 g (min 20 (S 9 g + 1)))) rfl (fun H locs hP hD hS => ?_)
  refine lv_aload_n F.1 F.2.1 dX2_fallBack_26 rfl (lv_at hl 0 rfl) ?_
  refine k_get (v := .ref (a 11)) F nX2_fallBack_X2 hK.1 hP 0 rfl rfl 4 (by decide) (List.mem_of_getElem? (i := 7) rfl) rfl dX2_fallBack_27 ?_
  refine lv_iload_n F.1 F.2.1 dX2_fallBack_30 rfl (lv_at hl 1 rfl) ?_
  refine k_iald (f := S 7) (n := 8) F hK.1 hP 4 0 rfl rfl (by omega) (by decide) dX2_fallBack_31 ?_
  refine k_if_le (tgt := 45) F (by omega) dX2_fallBack_32 (by decide) (fun h32 => ?_) (fun h32 => ?_)
  · skip
    exact k_retMV F hr hlk hP (by first | rfl | exact congrArg (wGu cI a) (setf_same _ _ _ _ (by show S 7 g = S 7 g - 1; omega)).symm) hS dX2_fallBack_45
  · skip
    refine lv_aload_n F.1 F.2.1 dX2_fallBack_35 rfl (lv_at hl 0 rfl) ?_
    refine k_get (v := .ref (a 11)) F nX2_fallBack_X2 hK.1 hP 0 rfl rfl 4 (by decide) (List.mem_of_getElem? (i := 7) rfl) rfl dX2_fallBack_36 ?_
    refine lv_iload_n F.1 F.2.1 dX2_fallBack_39 rfl (lv_at hl 1 rfl) ?_
    refine lv_dup2_11 F.1 F.2.1 dX2_fallBack_40 rfl rfl ?_
    refine k_iald (f := S 7) (n := 8) F hK.1 hP 4 0 rfl rfl (by omega) (by decide) dX2_fallBack_41 ?_
    refine lv_iconst (v := nI 1) F.1 F.2.1 dX2_fallBack_42 (by decide) ?_
    refine k_isub F (by omega) dX2_fallBack_43 ?_
    refine k_iast (f := S 7) (n := 8) (k := g) (x := (S 7 g - 1)) F hK.1 hP hD hS 4 0 rfl rfl (by omega) (by decide) dX2_fallBack_44 (wGu cI a (setf (setf (setf S 10 g x) 9 g (min 20 (S 9 g + 1))) 7 g (S 7 g - 1))) rfl (fun H locs hP hD hS => ?_)
    exact k_retMV F hr hlk hP (by first | rfl | exact congrArg (wGu cI a) (setf_same _ _ _ _ (by show S 7 g = S 7 g - 1; omega)).symm) hS dX2_fallBack_45
end
section
theorem dX3_gradeOfHiss_0 : decode cX3_gradeOfHiss 0 = .ok (.iload_n 0, 1) := by decide +kernel
theorem dX3_gradeOfHiss_1 : decode cX3_gradeOfHiss 1 = .ok (.ifCond .gt 5, 3) := by decide +kernel
theorem dX3_gradeOfHiss_4 : decode cX3_gradeOfHiss 4 = .ok (.iconst 0, 1) := by decide +kernel
theorem dX3_gradeOfHiss_5 : decode cX3_gradeOfHiss 5 = .ok (.ireturn, 1) := by decide +kernel
theorem dX3_gradeOfHiss_6 : decode cX3_gradeOfHiss 6 = .ok (.iload_n 0, 1) := by decide +kernel
theorem dX3_gradeOfHiss_7 : decode cX3_gradeOfHiss 7 = .ok (.iconst 5, 1) := by decide +kernel
theorem dX3_gradeOfHiss_8 : decode cX3_gradeOfHiss 8 = .ok (.if_icmp .gt 5, 3) := by decide +kernel
theorem dX3_gradeOfHiss_11 : decode cX3_gradeOfHiss 11 = .ok (.iconst 1, 1) := by decide +kernel
theorem dX3_gradeOfHiss_12 : decode cX3_gradeOfHiss 12 = .ok (.ireturn, 1) := by decide +kernel
theorem dX3_gradeOfHiss_13 : decode cX3_gradeOfHiss 13 = .ok (.iload_n 0, 1) := by decide +kernel
theorem dX3_gradeOfHiss_14 : decode cX3_gradeOfHiss 14 = .ok (.bipush 10, 2) := by decide +kernel
theorem dX3_gradeOfHiss_16 : decode cX3_gradeOfHiss 16 = .ok (.if_icmp .gt 5, 3) := by decide +kernel
theorem dX3_gradeOfHiss_19 : decode cX3_gradeOfHiss 19 = .ok (.iconst 2, 1) := by decide +kernel
theorem dX3_gradeOfHiss_20 : decode cX3_gradeOfHiss 20 = .ok (.ireturn, 1) := by decide +kernel
theorem dX3_gradeOfHiss_21 : decode cX3_gradeOfHiss 21 = .ok (.iload_n 0, 1) := by decide +kernel
theorem dX3_gradeOfHiss_22 : decode cX3_gradeOfHiss 22 = .ok (.bipush 20, 2) := by decide +kernel
theorem dX3_gradeOfHiss_24 : decode cX3_gradeOfHiss 24 = .ok (.if_icmp .gt 7, 3) := by decide +kernel
theorem dX3_gradeOfHiss_27 : decode cX3_gradeOfHiss 27 = .ok (.iconst 3, 1) := by decide +kernel
theorem dX3_gradeOfHiss_28 : decode cX3_gradeOfHiss 28 = .ok (.goto 4, 3) := by decide +kernel
theorem dX3_gradeOfHiss_31 : decode cX3_gradeOfHiss 31 = .ok (.iconst 4, 1) := by decide +kernel
theorem dX3_gradeOfHiss_32 : decode cX3_gradeOfHiss 32 = .ok (.ireturn, 1) := by decide +kernel
end
section
def wF2 (cI : ClassId) (a b : Nat → Nat) (S S2 : Nat → Nat → Nat) : va_W := wFl cI b S2 ++ wFl cI a S
def wG2 (cI : ClassId) (a b : Nat → Nat) (S S2 : Nat → Nat → Nat) : va_W := wGu cI b S2 ++ wGu cI a S
def lackN (S : Nat → Nat → Nat) (g r : Nat) : Nat := if g < S 0 0 then max 0 (S 1 g - r) else 0
/-- the hiss of a gate at a rank -/
def hisG (S : Nat → Nat → Nat) (g r : Nat) : Nat := hisN S g (lackN S g r) (S 0 1)
theorem lackN_le {S : Nat → Nat → Nat} (h : Inv S) (g r : Nat) : lackN S g r ≤ 9 := by
  have := h.rank g
  unfold lackN
  split <;> omega
theorem hisG_le {S : Nat → Nat → Nat} (h : Inv S) (g r : Nat) : hisG S g r ≤ 144 := by
  have h1 := hisN_le S h.mood g (lackN S g r) (S 0 1)
  have h2 := lackN_le h g r
  have h3 := h.geese
  unfold hisG
  calc hisN S g (lackN S g r) (S 0 1) ≤ S 0 1 * (9 + lackN S g r) := h1
    _ ≤ 8 * 18 := Nat.mul_le_mul h3 (by omega)
    _ = 144 := rfl
def inN (S : Nat → Nat → Nat) : Nat → Nat
  | 0 => 0
  | n + 1 => if S 0 0 ≤ S 7 n then inN S n + 1 else inN S n
theorem inN_le (S : Nat → Nat → Nat) : ∀ n, inN S n ≤ n
  | 0 => Nat.le_refl _
  | n + 1 => by
    have := inN_le S n
    unfold inN
    split <;> omega
def grdN (h : Nat) : Nat := if h = 0 then 0 else if h ≤ 5 then 1 else if h ≤ 10 then 2 else if h ≤ 20 then 3 else 4
theorem grdN_le (h : Nat) : grdN h ≤ 4 := by
  unfold grdN
  repeat' split
  all_goals omega
def payS (S : Nat → Nat → Nat) (v k : Nat) : Nat → Nat → Nat := setf (setf (setf (setf (setf S 8 v (S 8 v - 1)) 5 k (S 5 k + 1)) 4 k 3) 3 k (max 1 (S 3 k - 1))) 0 4 (S 0 4 + 1)
def fallS (S : Nat → Nat → Nat) (v b : Nat) : Nat → Nat → Nat := setf (setf (setf (setf S 10 v b) 9 v (min 20 (S 9 v + 1))) 7 v (S 7 v - 1)) 0 5 (S 0 5 + 1)
def goS (S : Nat → Nat → Nat) (v : Nat) : Nat → Nat → Nat := setF (setf S 7 v (S 7 v + 1)) 3 (enrN S (S 7 v) (S 0 1))
/-- a visitor who is not in the farm, in a beat -/
def moveS (S : Nat → Nat → Nat) (v : Nat) : Nat → Nat → Nat :=
  if 0 < S 10 v then setf S 10 v (S 10 v - 1) else if hisG S (S 7 v) (S 6 v) ≤ S 9 v then goS S v
  else if 0 < S 8 v then payS S v ((frcN S (S 7 v) (S 0 1)).1 - 1) else fallS S v (grdN (hisG S (S 7 v) (S 6 v)))
theorem moveS_r {S : Nat → Nat → Nat} {v : Nat} (h : 0 < S 10 v) : setf S 10 v (S 10 v - 1) = moveS S v := by unfold moveS; rw [if_pos h]
theorem moveS_d {S : Nat → Nat → Nat} {v : Nat} (h0 : ¬ 0 < S 10 v) (h1 : hisG S (S 7 v) (S 6 v) ≤ S 9 v) : goS S v = moveS S v := by unfold moveS; rw [if_neg h0, if_pos h1]
theorem moveS_p {S : Nat → Nat → Nat} {v k : Nat} (h0 : ¬ 0 < S 10 v) (h1 : ¬ hisG S (S 7 v) (S 6 v) ≤ S 9 v) (h2 : 0 < S 8 v) (hk : (frcN S (S 7 v) (S 0 1)).1 = k + 1) : payS S v k = moveS S v := by unfold moveS; rw [if_neg h0, if_neg h1, if_pos h2, hk, Nat.add_sub_cancel]
theorem moveS_f {S : Nat → Nat → Nat} {v : Nat} (h0 : ¬ 0 < S 10 v) (h1 : ¬ hisG S (S 7 v) (S 6 v) ≤ S 9 v) (h2 : ¬ 0 < S 8 v) : fallS S v (grdN (hisG S (S 7 v) (S 6 v))) = moveS S v := by unfold moveS; rw [if_neg h0, if_neg h1, if_neg h2]
theorem hisN_pos (S : Nat → Nat → Nat) (t x : Nat) : ∀ n, 0 < hisN S t x n → ∃ j, j < n ∧ awk S j t
  | 0, h => absurd h (by simp [hisN])
  | n + 1, h => by
    by_cases a : awk S n t
    · exact ⟨n, by omega, a⟩
    · unfold hisN at h
      rw [if_neg a] at h
      obtain ⟨j, h1, h2⟩ := hisN_pos S t x n h
      exact ⟨j, by omega, h2⟩
theorem frcN_some (S : Nat → Nat → Nat) (t : Nat) : ∀ n, (∀ j, j < n → 1 ≤ S 3 j) → (∃ j, j < n ∧ awk S j t) → ∃ k, (frcN S t n).1 = k + 1 ∧ k < n ∧ awk S k t ∧ (frcN S t n).2 = S 3 k
  | 0, _, h => absurd h (by rintro ⟨j, h, -⟩; omega)
  | n + 1, hm, h => by
    unfold frcN
    by_cases a : awk S n t ∧ (frcN S t n).2 < S 3 n
    · rw [if_pos a]; exact ⟨n, rfl, by omega, a.1, rfl⟩
    · rw [if_neg a]
      obtain ⟨j, h1, h2⟩ := h
      by_cases hj : ∃ j, j < n ∧ awk S j t
      · obtain ⟨k, e1, e2, e3, e4⟩ := frcN_some S t n (fun j h => hm j (by omega)) hj
        exact ⟨k, e1, by omega, e3, e4⟩
      · exfalso
        have hjn : j = n := by
          by_cases q : j = n
          · exact q
          · exact absurd ⟨j, by omega, h2⟩ hj
        subst hjn
        have h0 : (frcN S t j).2 = 0 := by
          clear a hm h1 h2
          induction j with
          | zero => rfl
          | succ n ih =>
            unfold frcN
            rw [if_neg (fun q => hj ⟨n, by omega, q.1⟩)]
            exact ih (fun ⟨k, h1, h2⟩ => hj ⟨k, by omega, h2⟩)
        exact a ⟨h2, by rw [h0]; exact hm j (by omega)⟩
theorem frc_get {S : Nat → Nat → Nat} (hI : Inv S) {t r : Nat} (h : 0 < hisG S t r) : ∃ k, (frcN S t (S 0 1)).1 = k + 1 ∧ k < S 0 1 ∧ awk S k t ∧ (frcN S t (S 0 1)).2 = S 3 k := frcN_some S t _ (fun j hj => hI.mood1 j hj) (hisN_pos S t _ _ h)
/-- a visitor in a beat -/
def mvS (S : Nat → Nat → Nat) (v : Nat) : Nat → Nat → Nat := if S 0 0 ≤ S 7 v then S else moveS S v
def movN (S : Nat → Nat → Nat) : Nat → Nat → Nat → Nat
  | 0 => S
  | n + 1 => mvS (movN S n) n
theorem movN_y {S : Nat → Nat → Nat} {n : Nat} (h : movN S n 0 0 ≤ movN S n 7 n) : movN S n = movN S (n + 1) := by show _ = mvS (movN S n) n; unfold mvS; rw [if_pos h]
theorem movN_n {S : Nat → Nat → Nat} {n : Nat} (h : ¬ movN S n 0 0 ≤ movN S n 7 n) : moveS (movN S n) n = movN S (n + 1) := by show _ = mvS (movN S n) n; unfold mvS; rw [if_neg h]
abbrev wakS (S : Nat → Nat → Nat) : Nat → Nat → Nat := setF S 4 (wakN S (S 0 1))
def beatS (S : Nat → Nat → Nat) : Nat → Nat → Nat := setf (movN (wakS S) (S 0 2)) 0 3 (movN (wakS S) (S 0 2) 0 3 + 1)
def beatsN (S : Nat → Nat → Nat) : Nat → Nat → Nat → Nat
  | 0 => S
  | n + 1 => beatS (beatsN S n)
theorem setf_sc (S : Nat → Nat → Nat) (k v j : Nat) (h : j ≠ k) : setf S 0 k v 0 j = S 0 j := by show (if (0:Nat) = 0 then updN (S 0) k v else S 0) j = _; rw [if_pos rfl]; simp [updN, h]
theorem setF_at (S : Nat → Nat → Nat) (f a j : Nat) (g : Nat → Nat) : setF S f g a j = if a = f then g j else S a j := by unfold setF; split <;> rfl
theorem setf_at (S : Nat → Nat → Nat) (f a k v j : Nat) : setf S f k v a j = if a = f ∧ j = k then v else S a j := by
  show setF S f (updN (S f) k v) a j = _
  rw [setF_at]
  by_cases h : a = f
  · subst h
    by_cases hj : j = k <;> simp [updN, hj]
  · simp [h]
theorem moveS_sc (S : Nat → Nat → Nat) (v j : Nat) (hj : j < 4) : moveS S v 0 j = S 0 j := by
  unfold moveS
  split
  · simp [setf_at]
  · split
    · simp [goS, setF_at, setf_at]
    · split
      · simp only [payS, setf_at]; simp; omega
      · simp only [fallS, setf_at]; simp; omega
theorem movN_sc (S : Nat → Nat → Nat) (j : Nat) (hj : j < 4) : ∀ n, movN S n 0 j = S 0 j
  | 0 => rfl
  | n + 1 => by
    have h := movN_sc S j hj n
    show mvS (movN S n) n 0 j = _
    unfold mvS
    split
    · exact h
    · rw [moveS_sc _ _ _ hj]; exact h
theorem inv_wakS {S : Nat → Nat → Nat} (h : Inv S) : Inv (wakS S) := by
  refine ⟨h.gates, h.geese, h.guests, h.rank, h.keep, h.keepIn, h.mood, h.mood1, fun j => ?_, h.own, h.went, h.has, h.brave, h.back⟩
  have := h.rest j
  show wakN S (S 0 1) j ≤ 3
  unfold wakN
  split <;> omega
theorem inv_goS {S : Nat → Nat → Nat} (h : Inv S) {v : Nat} (hv : ¬ S 0 0 ≤ S 7 v) : Inv (goS S v) := by
  refine ⟨h.gates, h.geese, h.guests, h.rank, h.keep, h.keepIn, fun j => ?_, fun j hj => ?_, h.rest, h.own, fun j => ?_, h.has, h.brave, h.back⟩
  · have := h.mood j
    show enrN S (S 7 v) (S 0 1) j ≤ 9
    unfold enrN
    split <;> omega
  · have := h.mood1 j hj
    show 1 ≤ enrN S (S 7 v) (S 0 1) j
    unfold enrN
    split <;> omega
  · have := h.went j
    show (if j = v then S 7 v + 1 else S 7 j) ≤ S 0 0
    split <;> omega
theorem inv_payS {S : Nat → Nat → Nat} (h : Inv S) (v k : Nat) : Inv (payS S v k) := by
  refine ⟨h.gates, h.geese, h.guests, h.rank, h.keep, h.keepIn, fun j => ?_, fun j hj => ?_, fun j => ?_, h.own, h.went, fun j => ?_, h.brave, h.back⟩
  · have := h.mood j
    have := h.mood k
    show (if j = k then max 1 (S 3 k - 1) else S 3 j) ≤ 9
    split <;> omega
  · have := h.mood1 j hj
    show 1 ≤ (if j = k then max 1 (S 3 k - 1) else S 3 j)
    split <;> omega
  · have := h.rest j
    show (if j = k then 3 else S 4 j) ≤ 3
    split <;> omega
  · have := h.has j
    have := h.has v
    show (if j = v then S 8 v - 1 else S 8 j) ≤ 20
    split <;> omega
theorem inv_fallS {S : Nat → Nat → Nat} (h : Inv S) (v b : Nat) (hb : b ≤ 4) : Inv (fallS S v b) := by
  refine ⟨h.gates, h.geese, h.guests, h.rank, h.keep, h.keepIn, h.mood, h.mood1, h.rest, h.own, fun j => ?_, h.has, fun j => ?_, fun j => ?_⟩
  · have := h.went j
    have := h.went v
    show (if j = v then S 7 v - 1 else S 7 j) ≤ S 0 0
    split <;> omega
  · have := h.brave j
    show (if j = v then min 20 (S 9 v + 1) else S 9 j) ≤ 20
    split <;> omega
  · have := h.back j
    show (if j = v then b else S 10 j) ≤ 4
    split <;> omega
theorem inv_ret {S : Nat → Nat → Nat} (h : Inv S) (v : Nat) : Inv (setf S 10 v (S 10 v - 1)) := by
  refine ⟨h.gates, h.geese, h.guests, h.rank, h.keep, h.keepIn, h.mood, h.mood1, h.rest, h.own, h.went, h.has, h.brave, fun j => ?_⟩
  have := h.back j
  have := h.back v
  show (if j = v then S 10 v - 1 else S 10 j) ≤ 4
  split <;> omega
theorem inv_moveS {S : Nat → Nat → Nat} (h : Inv S) {v : Nat} (hv : ¬ S 0 0 ≤ S 7 v) : Inv (moveS S v) := by
  unfold moveS
  split
  · exact inv_ret h v
  · split
    · exact inv_goS h hv
    · split
      · exact inv_payS h v _
      · exact inv_fallS h v _ (grdN_le _)
theorem inv_movN {S : Nat → Nat → Nat} (h : Inv S) : ∀ n, Inv (movN S n)
  | 0 => h
  | n + 1 => by
    have := inv_movN h n
    show Inv (mvS (movN S n) n)
    unfold mvS
    split
    · exact this
    · rename_i q; exact inv_moveS this q
theorem inv_beatS {S : Nat → Nat → Nat} (h : Inv S) : Inv (beatS S) := by
  have := inv_movN (inv_wakS h) (S 0 2)
  exact ⟨this.gates, this.geese, this.guests, this.rank, this.keep, this.keepIn, this.mood, this.mood1, this.rest, this.own, this.went, this.has, this.brave, this.back⟩
theorem inv_beatsN {S : Nat → Nat → Nat} (h : Inv S) : ∀ n, Inv (beatsN S n)
  | 0 => h
  | n + 1 => inv_beatS (inv_beatsN h n)
theorem beatS_sc (S : Nat → Nat → Nat) (j : Nat) (hj : j < 3) : beatS S 0 j = S 0 j := by
  show setf _ 0 3 _ 0 j = _
  rw [setf_sc _ _ _ _ (by omega), movN_sc _ _ (by omega)]
  rfl
theorem beatsN_sc (S : Nat → Nat → Nat) (j : Nat) (hj : j < 3) : ∀ n, beatsN S n 0 j = S 0 j
  | 0 => rfl
  | n + 1 => by show beatS _ 0 j = _; rw [beatS_sc _ _ hj]; exact beatsN_sc S j hj n
/-- how many beats are waited, at most m -/
def waitN (S : Nat → Nat → Nat) (v : Nat) : Nat → Nat
  | 0 => 0
  | m + 1 => if waitN S v m = m ∧ ¬ beatsN S m 0 0 ≤ beatsN S m 7 v then m + 1 else waitN S v m
theorem wait_to {S : Nat → Nat → Nat} {v i : Nat} (hw : ∀ j, j < i → ¬ beatsN S j 0 0 ≤ beatsN S j 7 v) : ∀ j, j ≤ i → waitN S v j = j
  | 0, _ => rfl
  | j + 1, h => by
    unfold waitN
    rw [if_pos ⟨wait_to hw j (by omega), hw j (by omega)⟩]
theorem wait_eq {S : Nat → Nat → Nat} {v i : Nat} (hw : ∀ j, j < i → ¬ beatsN S j 0 0 ≤ beatsN S j 7 v) (h : beatsN S i 0 0 ≤ beatsN S i 7 v) : ∀ q, i ≤ q → waitN S v q = i
  | 0, hq => by rw [show i = 0 by omega]; rfl
  | q + 1, hq => by
    by_cases e : i = q + 1
    · subst e; exact wait_to hw _ (Nat.le_refl _)
    · have h1 := wait_eq hw h q (by omega)
      unfold waitN
      rw [if_neg, h1]
      rintro ⟨a, b⟩
      rw [h1] at a
      subst a
      exact b h
theorem wait_eq2 {S : Nat → Nat → Nat} {v i q : Nat} (hw : ∀ j, j < i → ¬ beatsN S j 0 0 ≤ beatsN S j 7 v) (hi : i ≤ q) (h : q ≤ i ∨ beatsN S i 0 0 ≤ beatsN S i 7 v) : waitN S v q = i := by
  rcases h with h | h
  · rw [show q = i by omega]; exact wait_to hw i (Nat.le_refl _)
  · exact wait_eq hw h q hi
/-- in how many beats a visitor is in the farm, at most q; -1 if not -/
def arrI (S : Nat → Nat → Nat) (v q : Nat) : Int32 := if beatsN S (waitN S v q) 0 0 ≤ beatsN S (waitN S v q) 7 v then nI (waitN S v q) else -1
theorem waitN_le (S : Nat → Nat → Nat) (v : Nat) : ∀ q, waitN S v q ≤ q
  | 0 => Nat.le_refl _
  | q + 1 => by
    have := waitN_le S v q
    unfold waitN
    split <;> omega
/-! how many geese to calm -/
def remN (S : Nat → Nat → Nat) (t x m g : Nat) : Nat → Nat
  | 0 => 0
  | n + 1 => if awk S n t ∧ (S 3 n < m ∨ (S 3 n = m ∧ g ≤ n)) then remN S t x m g n + (S 3 n + x) else remN S t x m g n
theorem remN_all {S : Nat → Nat → Nat} {t x : Nat} (h : ∀ j, S 3 j ≤ 9) : ∀ n, remN S t x 9 0 n = hisN S t x n
  | 0 => rfl
  | n + 1 => by
    have := h n
    unfold remN hisN
    rw [remN_all h n]
    by_cases a : awk S n t
    · rw [if_pos a, if_pos ⟨a, by omega⟩]
    · rw [if_neg a, if_neg (fun q => a q.1)]
theorem remN_low {S : Nat → Nat → Nat} {t x m g : Nat} : ∀ n, n ≤ g → remN S t x (m + 1) g n = remN S t x m 0 n
  | 0, _ => rfl
  | n + 1, h => by
    unfold remN
    rw [remN_low n (by omega)]
    have : (S 3 n < m + 1 ∨ (S 3 n = m + 1 ∧ g ≤ n)) ↔ (S 3 n < m ∨ (S 3 n = m ∧ 0 ≤ n)) := by omega
    simp only [this]
theorem remN_same {S : Nat → Nat → Nat} {t x m g : Nat} (hg : ¬ (S 3 g = m ∧ awk S g t)) : ∀ n, remN S t x m (g + 1) n = remN S t x m g n
  | 0 => rfl
  | n + 1 => by
    unfold remN
    rw [remN_same hg n]
    by_cases a : awk S n t
    · have : (S 3 n < m ∨ (S 3 n = m ∧ g + 1 ≤ n)) ↔ (S 3 n < m ∨ (S 3 n = m ∧ g ≤ n)) := by
        constructor
        · omega
        · intro h
          rcases h with h | ⟨h1, h2⟩
          · exact Or.inl h
          · refine Or.inr ⟨h1, ?_⟩
            by_cases e : g = n
            · subst e; exact absurd ⟨h1, a⟩ hg
            · omega
      simp only [this]
    · rw [if_neg (fun q => a q.1), if_neg (fun q => a q.1)]
theorem remN_step {S : Nat → Nat → Nat} {t x m g : Nat} (h1 : S 3 g = m) (h2 : awk S g t) : ∀ n, g < n → remN S t x m g n = remN S t x m (g + 1) n + (m + x)
  | 0, h => absurd h (by omega)
  | n + 1, h => by
    unfold remN
    by_cases e : g = n
    · subst e
      rw [if_pos ⟨h2, Or.inr ⟨h1, Nat.le_refl _⟩⟩, if_neg (by rintro ⟨-, q⟩; omega), h1]
      have e2 : ∀ k, k ≤ g → remN S t x m g k = remN S t x m (g + 1) k := by
        intro k
        induction k with
        | zero => intro _; rfl
        | succ k ih =>
          intro hk
          unfold remN
          rw [ih (by omega)]
          have : (S 3 k < m ∨ (S 3 k = m ∧ g ≤ k)) ↔ (S 3 k < m ∨ (S 3 k = m ∧ g + 1 ≤ k)) := by omega
          simp only [this]
      rw [e2 g (Nat.le_refl _)]
    · have ih := remN_step (x := x) h1 h2 n (by omega)
      have : (S 3 n < m ∨ (S 3 n = m ∧ g + 1 ≤ n)) ↔ (S 3 n < m ∨ (S 3 n = m ∧ g ≤ n)) := by omega
      simp only [this]
      split <;> omega
/-- the hiss left, and how many are calmed, behind the first g geese at the temper m -/
def calI (S : Nat → Nat → Nat) (w t x m : Nat) (p : Nat × Nat) : Nat → Nat × Nat
  | 0 => p
  | n + 1 => if w < (calI S w t x m p n).1 ∧ S 3 n = m ∧ awk S n t then ((calI S w t x m p n).1 - (m + x), (calI S w t x m p n).2 + 1) else calI S w t x m p n
def calO (S : Nat → Nat → Nat) (w t x h n : Nat) : Nat → Nat × Nat
  | 0 => (h, 0)
  | j + 1 => calI S w t x (9 - j) (calO S w t x h n j) n
theorem calI_le (S : Nat → Nat → Nat) (w t x m : Nat) (p : Nat × Nat) : ∀ n, (calI S w t x m p n).1 ≤ p.1 ∧ (calI S w t x m p n).2 ≤ p.2 + n
  | 0 => ⟨Nat.le_refl _, Nat.le_refl _⟩
  | n + 1 => by
    have := calI_le S w t x m p n
    unfold calI
    split
    · exact ⟨by show _ - _ ≤ _; omega, by show _ + 1 ≤ _; omega⟩
    · omega
def calmN (S : Nat → Nat → Nat) (v : Nat) : Nat := (calO S (S 9 v) (S 7 v) (lackN S (S 7 v) (S 6 v)) (hisG S (S 7 v) (S 6 v)) (S 0 1) 9).2
end
section
theorem nX1_copyFrom_X1 : ∀ x ∈ wsX10, x ∈ wsX1_copyFrom := fun _ h => List.mem_cons_of_mem _ (List.mem_append_right _ h)
set_option maxRecDepth 100000 in
set_option maxHeartbeats 4000000 in
theorem c_X1_copyFrom (l : Launch) (D : va_G) (cI : ClassId) (a b : Nat → Nat) (S S2 : Nat → Nat → Nat) : MV l yX1_copyFrom wsX1_copyFrom 1 18 D [(cI, .int)] [.ref (b 2), .ref (a 2)] (wF2 cI a b S S2) (wF2 cI a b S S) := by
  refine k_bodyM (cc := cX1_copyFrom) (maxL := 2) (ret := none) (by decide) rfl (Nat.le_of_ble_eq_true rfl) ?_
  intro p e s m args below meth c H ls F hr hlk hl hP hK hD hS
  have F : CallFix p m c cX1_copyFrom 2 s args wsX1_copyFrom RX1 := F
  have hl : lv_has ls 2 [(0, .ref (b 2)), (1, .ref (a 2))] := hl
  refine lv_aload_n F.1 F.2.1 dX1_copyFrom_0 rfl (lv_at hl 0 rfl) ?_
  refine lv_aload_n F.1 F.2.1 dX1_copyFrom_1 rfl (lv_at hl 1 rfl) ?_
  refine k_get (v := .int (nI (S 0 1))) F nX1_copyFrom_X1 hK.1 hP 5 rfl rfl 0 (by decide) (List.mem_of_getElem? (i := 1) rfl) rfl dX1_copyFrom_2 ?_
  refine k_put F nX1_copyFrom_X1 tyX1 tyX1_ok nmX1 hK.1 hP hD hS 0 rfl rfl 0 (by decide) (List.mem_of_getElem? (i := 1) rfl) rfl (by decide +kernel) (Nat.le_of_ble_eq_true rfl) dX1_copyFrom_5 (wF2 cI a b S (setf S2 0 1 (S 0 1))) rfl (fun H locs hP hD hS => ?_)
  refine lv_aload_n F.1 F.2.1 dX1_copyFrom_8 rfl (lv_at hl 1 rfl) ?_
  refine k_get (v := .ref (a 3)) F nX1_copyFrom_X1 hK.1 hP 5 rfl rfl 1 (by decide) (List.mem_of_getElem? (i := 2) rfl) rfl dX1_copyFrom_9 ?_
  refine lv_iconst (v := nI 0) F.1 F.2.1 dX1_copyFrom_12 (by decide) ?_
  refine lv_aload_n F.1 F.2.1 dX1_copyFrom_13 rfl (lv_at hl 0 rfl) ?_
  refine k_get (v := .ref (b 3)) F nX1_copyFrom_X1 hK.1 hP 0 rfl rfl 1 (by decide) (List.mem_of_getElem? (i := 2) rfl) rfl dX1_copyFrom_14 ?_
  refine lv_iconst (v := nI 0) F.1 F.2.1 dX1_copyFrom_17 (by decide) ?_
  refine lv_bipush (v := nI 8) F.1 F.2.1 dX1_copyFrom_18 (by decide) ?_
  refine k_copy (n := 8) F hl.1 (List.mem_of_getElem? (i := 3) rfl) (List.mem_of_getElem? (i := 4) rfl) (List.mem_of_getElem? (i := 5) rfl) (List.mem_of_getElem? (i := 6) rfl) hK.1 hP hD hS 6 1 0 rfl rfl rfl (by decide) (Nat.le_of_ble_eq_true rfl) (Nat.le_of_ble_eq_true rfl) dX1_copyFrom_20 (wF2 cI a b S (setF (setf S2 0 1 (S 0 1)) 2 (S 2))) rfl (fun H locs hP hD hS => ?_)
  refine lv_aload_n F.1 F.2.1 dX1_copyFrom_23 rfl (lv_at hl 1 rfl) ?_
  refine k_get (v := .ref (a 4)) F nX1_copyFrom_X1 hK.1 hP 5 rfl rfl 2 (by decide) (List.mem_of_getElem? (i := 7) rfl) rfl dX1_copyFrom_24 ?_
  refine lv_iconst (v := nI 0) F.1 F.2.1 dX1_copyFrom_27 (by decide) ?_
  refine lv_aload_n F.1 F.2.1 dX1_copyFrom_28 rfl (lv_at hl 0 rfl) ?_
  refine k_get (v := .ref (b 4)) F nX1_copyFrom_X1 hK.1 hP 0 rfl rfl 2 (by decide) (List.mem_of_getElem? (i := 7) rfl) rfl dX1_copyFrom_29 ?_
  refine lv_iconst (v := nI 0) F.1 F.2.1 dX1_copyFrom_32 (by decide) ?_
  refine lv_bipush (v := nI 8) F.1 F.2.1 dX1_copyFrom_33 (by decide) ?_
  refine k_copy (n := 8) F hl.1 (List.mem_of_getElem? (i := 3) rfl) (List.mem_of_getElem? (i := 4) rfl) (List.mem_of_getElem? (i := 5) rfl) (List.mem_of_getElem? (i := 6) rfl) hK.1 hP hD hS 7 2 0 rfl rfl rfl (by decide) (Nat.le_of_ble_eq_true rfl) (Nat.le_of_ble_eq_true rfl) dX1_copyFrom_35 (wF2 cI a b S (setF (setF (setf S2 0 1 (S 0 1)) 2 (S 2)) 3 (S 3))) rfl (fun H locs hP hD hS => ?_)
  refine lv_aload_n F.1 F.2.1 dX1_copyFrom_38 rfl (lv_at hl 1 rfl) ?_
  refine k_get (v := .ref (a 5)) F nX1_copyFrom_X1 hK.1 hP 5 rfl rfl 3 (by decide) (List.mem_of_getElem? (i := 8) rfl) rfl dX1_copyFrom_39 ?_
  refine lv_iconst (v := nI 0) F.1 F.2.1 dX1_copyFrom_42 (by decide) ?_
  refine lv_aload_n F.1 F.2.1 dX1_copyFrom_43 rfl (lv_at hl 0 rfl) ?_
  refine k_get (v := .ref (b 5)) F nX1_copyFrom_X1 hK.1 hP 0 rfl rfl 3 (by decide) (List.mem_of_getElem? (i := 8) rfl) rfl dX1_copyFrom_44 ?_
  refine lv_iconst (v := nI 0) F.1 F.2.1 dX1_copyFrom_47 (by decide) ?_
  refine lv_bipush (v := nI 8) F.1 F.2.1 dX1_copyFrom_48 (by decide) ?_
  refine k_copy (n := 8) F hl.1 (List.mem_of_getElem? (i := 3) rfl) (List.mem_of_getElem? (i := 4) rfl) (List.mem_of_getElem? (i := 5) rfl) (List.mem_of_getElem? (i := 6) rfl) hK.1 hP hD hS 8 3 0 rfl rfl rfl (by decide) (Nat.le_of_ble_eq_true rfl) (Nat.le_of_ble_eq_true rfl) dX1_copyFrom_50 (wF2 cI a b S (setF (setF (setF (setf S2 0 1 (S 0 1)) 2 (S 2)) 3 (S 3)) 4 (S 4))) rfl (fun H locs hP hD hS => ?_)
  refine lv_aload_n F.1 F.2.1 dX1_copyFrom_53 rfl (lv_at hl 1 rfl) ?_
  refine k_get (v := .ref (a 6)) F nX1_copyFrom_X1 hK.1 hP 5 rfl rfl 4 (by decide) (List.mem_of_getElem? (i := 9) rfl) rfl dX1_copyFrom_54 ?_
  refine lv_iconst (v := nI 0) F.1 F.2.1 dX1_copyFrom_57 (by decide) ?_
  refine lv_aload_n F.1 F.2.1 dX1_copyFrom_58 rfl (lv_at hl 0 rfl) ?_
  refine k_get (v := .ref (b 6)) F nX1_copyFrom_X1 hK.1 hP 0 rfl rfl 4 (by decide) (List.mem_of_getElem? (i := 9) rfl) rfl dX1_copyFrom_59 ?_
  refine lv_iconst (v := nI 0) F.1 F.2.1 dX1_copyFrom_62 (by decide) ?_
  refine lv_bipush (v := nI 8) F.1 F.2.1 dX1_copyFrom_63 (by decide) ?_
  refine k_copy (n := 8) F hl.1 (List.mem_of_getElem? (i := 3) rfl) (List.mem_of_getElem? (i := 4) rfl) (List.mem_of_getElem? (i := 5) rfl) (List.mem_of_getElem? (i := 6) rfl) hK.1 hP hD hS 9 4 0 rfl rfl rfl (by decide) (Nat.le_of_ble_eq_true rfl) (Nat.le_of_ble_eq_true rfl) dX1_copyFrom_65 (wF2 cI a b S (setF (setF (setF (setF (setf S2 0 1 (S 0 1)) 2 (S 2)) 3 (S 3)) 4 (S 4)) 5 (S 5))) rfl (fun H locs hP hD hS => ?_)
  exact k_retMV F hr hlk hP rfl hS dX1_copyFrom_68
theorem nX2_copyFrom_X2 : ∀ x ∈ wsX20, x ∈ wsX2_copyFrom := fun _ h => List.mem_cons_of_mem _ (List.mem_append_right _ h)
set_option maxRecDepth 100000 in
set_option maxHeartbeats 4000000 in
theorem c_X2_copyFrom (l : Launch) (D : va_G) (cI : ClassId) (a b : Nat → Nat) (S S2 : Nat → Nat → Nat) : MV l yX2_copyFrom wsX2_copyFrom 1 18 D [(cI, .int)] [.ref (b 7), .ref (a 7)] (wG2 cI a b S S2) (wG2 cI a b S S) := by
  refine k_bodyM (cc := cX2_copyFrom) (maxL := 2) (ret := none) (by decide) rfl (Nat.le_of_ble_eq_true rfl) ?_
  intro p e s m args below meth c H ls F hr hlk hl hP hK hD hS
  have F : CallFix p m c cX2_copyFrom 2 s args wsX2_copyFrom RX2 := F
  have hl : lv_has ls 2 [(0, .ref (b 7)), (1, .ref (a 7))] := hl
  refine lv_aload_n F.1 F.2.1 dX2_copyFrom_0 rfl (lv_at hl 0 rfl) ?_
  refine lv_aload_n F.1 F.2.1 dX2_copyFrom_1 rfl (lv_at hl 1 rfl) ?_
  refine k_get (v := .int (nI (S 0 2))) F nX2_copyFrom_X2 hK.1 hP 6 rfl rfl 0 (by decide) (List.mem_of_getElem? (i := 1) rfl) rfl dX2_copyFrom_2 ?_
  refine k_put F nX2_copyFrom_X2 tyX2 tyX2_ok nmX2 hK.1 hP hD hS 0 rfl rfl 0 (by decide) (List.mem_of_getElem? (i := 1) rfl) rfl (by decide +kernel) (Nat.le_of_ble_eq_true rfl) dX2_copyFrom_5 (wG2 cI a b S (setf S2 0 2 (S 0 2))) rfl (fun H locs hP hD hS => ?_)
  refine lv_aload_n F.1 F.2.1 dX2_copyFrom_8 rfl (lv_at hl 1 rfl) ?_
  refine k_get (v := .ref (a 8)) F nX2_copyFrom_X2 hK.1 hP 6 rfl rfl 1 (by decide) (List.mem_of_getElem? (i := 2) rfl) rfl dX2_copyFrom_9 ?_
  refine lv_iconst (v := nI 0) F.1 F.2.1 dX2_copyFrom_12 (by decide) ?_
  refine lv_aload_n F.1 F.2.1 dX2_copyFrom_13 rfl (lv_at hl 0 rfl) ?_
  refine k_get (v := .ref (b 8)) F nX2_copyFrom_X2 hK.1 hP 0 rfl rfl 1 (by decide) (List.mem_of_getElem? (i := 2) rfl) rfl dX2_copyFrom_14 ?_
  refine lv_iconst (v := nI 0) F.1 F.2.1 dX2_copyFrom_17 (by decide) ?_
  refine lv_bipush (v := nI 8) F.1 F.2.1 dX2_copyFrom_18 (by decide) ?_
  refine k_copy (n := 8) F hl.1 (List.mem_of_getElem? (i := 3) rfl) (List.mem_of_getElem? (i := 4) rfl) (List.mem_of_getElem? (i := 5) rfl) (List.mem_of_getElem? (i := 6) rfl) hK.1 hP hD hS 7 1 0 rfl rfl rfl (by decide) (Nat.le_of_ble_eq_true rfl) (Nat.le_of_ble_eq_true rfl) dX2_copyFrom_20 (wG2 cI a b S (setF (setf S2 0 2 (S 0 2)) 6 (S 6))) rfl (fun H locs hP hD hS => ?_)
  refine lv_aload_n F.1 F.2.1 dX2_copyFrom_23 rfl (lv_at hl 1 rfl) ?_
  refine k_get (v := .ref (a 9)) F nX2_copyFrom_X2 hK.1 hP 6 rfl rfl 2 (by decide) (List.mem_of_getElem? (i := 7) rfl) rfl dX2_copyFrom_24 ?_
  refine lv_iconst (v := nI 0) F.1 F.2.1 dX2_copyFrom_27 (by decide) ?_
  refine lv_aload_n F.1 F.2.1 dX2_copyFrom_28 rfl (lv_at hl 0 rfl) ?_
  refine k_get (v := .ref (b 9)) F nX2_copyFrom_X2 hK.1 hP 0 rfl rfl 2 (by decide) (List.mem_of_getElem? (i := 7) rfl) rfl dX2_copyFrom_29 ?_
  refine lv_iconst (v := nI 0) F.1 F.2.1 dX2_copyFrom_32 (by decide) ?_
  refine lv_bipush (v := nI 8) F.1 F.2.1 dX2_copyFrom_33 (by decide) ?_
  refine k_copy (n := 8) F hl.1 (List.mem_of_getElem? (i := 3) rfl) (List.mem_of_getElem? (i := 4) rfl) (List.mem_of_getElem? (i := 5) rfl) (List.mem_of_getElem? (i := 6) rfl) hK.1 hP hD hS 8 2 0 rfl rfl rfl (by decide) (Nat.le_of_ble_eq_true rfl) (Nat.le_of_ble_eq_true rfl) dX2_copyFrom_35 (wG2 cI a b S (setF (setF (setf S2 0 2 (S 0 2)) 6 (S 6)) 9 (S 9))) rfl (fun H locs hP hD hS => ?_)
  refine lv_aload_n F.1 F.2.1 dX2_copyFrom_38 rfl (lv_at hl 1 rfl) ?_
  refine k_get (v := .ref (a 10)) F nX2_copyFrom_X2 hK.1 hP 6 rfl rfl 3 (by decide) (List.mem_of_getElem? (i := 8) rfl) rfl dX2_copyFrom_39 ?_
  refine lv_iconst (v := nI 0) F.1 F.2.1 dX2_copyFrom_42 (by decide) ?_
  refine lv_aload_n F.1 F.2.1 dX2_copyFrom_43 rfl (lv_at hl 0 rfl) ?_
  refine k_get (v := .ref (b 10)) F nX2_copyFrom_X2 hK.1 hP 0 rfl rfl 3 (by decide) (List.mem_of_getElem? (i := 8) rfl) rfl dX2_copyFrom_44 ?_
  refine lv_iconst (v := nI 0) F.1 F.2.1 dX2_copyFrom_47 (by decide) ?_
  refine lv_bipush (v := nI 8) F.1 F.2.1 dX2_copyFrom_48 (by decide) ?_
  refine k_copy (n := 8) F hl.1 (List.mem_of_getElem? (i := 3) rfl) (List.mem_of_getElem? (i := 4) rfl) (List.mem_of_getElem? (i := 5) rfl) (List.mem_of_getElem? (i := 6) rfl) hK.1 hP hD hS 9 3 0 rfl rfl rfl (by decide) (Nat.le_of_ble_eq_true rfl) (Nat.le_of_ble_eq_true rfl) dX2_copyFrom_50 (wG2 cI a b S (setF (setF (setF (setf S2 0 2 (S 0 2)) 6 (S 6)) 9 (S 9)) 8 (S 8))) rfl (fun H locs hP hD hS => ?_)
  refine lv_aload_n F.1 F.2.1 dX2_copyFrom_53 rfl (lv_at hl 1 rfl) ?_
  refine k_get (v := .ref (a 11)) F nX2_copyFrom_X2 hK.1 hP 6 rfl rfl 4 (by decide) (List.mem_of_getElem? (i := 9) rfl) rfl dX2_copyFrom_54 ?_
  refine lv_iconst (v := nI 0) F.1 F.2.1 dX2_copyFrom_57 (by decide) ?_
  refine lv_aload_n F.1 F.2.1 dX2_copyFrom_58 rfl (lv_at hl 0 rfl) ?_
  refine k_get (v := .ref (b 11)) F nX2_copyFrom_X2 hK.1 hP 0 rfl rfl 4 (by decide) (List.mem_of_getElem? (i := 9) rfl) rfl dX2_copyFrom_59 ?_
  refine lv_iconst (v := nI 0) F.1 F.2.1 dX2_copyFrom_62 (by decide) ?_
  refine lv_bipush (v := nI 8) F.1 F.2.1 dX2_copyFrom_63 (by decide) ?_
  refine k_copy (n := 8) F hl.1 (List.mem_of_getElem? (i := 3) rfl) (List.mem_of_getElem? (i := 4) rfl) (List.mem_of_getElem? (i := 5) rfl) (List.mem_of_getElem? (i := 6) rfl) hK.1 hP hD hS 10 4 0 rfl rfl rfl (by decide) (Nat.le_of_ble_eq_true rfl) (Nat.le_of_ble_eq_true rfl) dX2_copyFrom_65 (wG2 cI a b S (setF (setF (setF (setF (setf S2 0 2 (S 0 2)) 6 (S 6)) 9 (S 9)) 8 (S 8)) 7 (S 7))) rfl (fun H locs hP hD hS => ?_)
  refine lv_aload_n F.1 F.2.1 dX2_copyFrom_68 rfl (lv_at hl 1 rfl) ?_
  refine k_get (v := .ref (a 12)) F nX2_copyFrom_X2 hK.1 hP 6 rfl rfl 5 (by decide) (List.mem_of_getElem? (i := 10) rfl) rfl dX2_copyFrom_69 ?_
  refine lv_iconst (v := nI 0) F.1 F.2.1 dX2_copyFrom_72 (by decide) ?_
  refine lv_aload_n F.1 F.2.1 dX2_copyFrom_73 rfl (lv_at hl 0 rfl) ?_
  refine k_get (v := .ref (b 12)) F nX2_copyFrom_X2 hK.1 hP 0 rfl rfl 5 (by decide) (List.mem_of_getElem? (i := 10) rfl) rfl dX2_copyFrom_74 ?_
  refine lv_iconst (v := nI 0) F.1 F.2.1 dX2_copyFrom_77 (by decide) ?_
  refine lv_bipush (v := nI 8) F.1 F.2.1 dX2_copyFrom_78 (by decide) ?_
  refine k_copy (n := 8) F hl.1 (List.mem_of_getElem? (i := 3) rfl) (List.mem_of_getElem? (i := 4) rfl) (List.mem_of_getElem? (i := 5) rfl) (List.mem_of_getElem? (i := 6) rfl) hK.1 hP hD hS 11 5 0 rfl rfl rfl (by decide) (Nat.le_of_ble_eq_true rfl) (Nat.le_of_ble_eq_true rfl) dX2_copyFrom_80 (wG2 cI a b S (setF (setF (setF (setF (setF (setf S2 0 2 (S 0 2)) 6 (S 6)) 9 (S 9)) 8 (S 8)) 7 (S 7)) 10 (S 10))) rfl (fun H locs hP hD hS => ?_)
  exact k_retMV F hr hlk hP rfl hS dX2_copyFrom_83
set_option maxRecDepth 100000 in
set_option maxHeartbeats 4000000 in
theorem c_X3_gradeOfHiss (l : Launch) (D : va_G) (cI : ClassId)  (h : Nat) (hh : h < 2 ^ 31) : PI l yX3_gradeOfHiss wsX3_gradeOfHiss 0 0 D [(cI, .int)] [.int (nI h)] [] (nI (grdN h)) := by
  refine k_bodyP (cc := cX3_gradeOfHiss) (maxL := 1) (ret := (some .int)) (by decide) rfl (Nat.le_of_ble_eq_true rfl) ?_
  intro p e s m args below meth c H ls F hr hlk hl hP hK hS
  have F : CallFix p m c cX3_gradeOfHiss 1 s args wsX3_gradeOfHiss RX3 := F
  have hl : lv_has ls 1 [(0, .int (nI h))] := hl
  refine lv_iload_n F.1 F.2.1 dX3_gradeOfHiss_0 rfl (lv_at hl 0 rfl) ?_
  refine k_if_gt (tgt := 6) F (by omega) dX3_gradeOfHiss_1 (by decide) (fun h1 => ?_) (fun h1 => ?_)
  · skip
    refine lv_iload_n F.1 F.2.1 dX3_gradeOfHiss_6 rfl (lv_at hl 0 rfl) ?_
    refine lv_iconst (v := nI 5) F.1 F.2.1 dX3_gradeOfHiss_7 (by decide) ?_
    refine k_icmp_gt (tgt := 13) F (by omega) (by omega) dX3_gradeOfHiss_8 (by decide) (fun h8 => ?_) (fun h8 => ?_)
    · skip
      refine lv_iload_n F.1 F.2.1 dX3_gradeOfHiss_13 rfl (lv_at hl 0 rfl) ?_
      refine lv_bipush (v := nI 10) F.1 F.2.1 dX3_gradeOfHiss_14 (by decide) ?_
      refine k_icmp_gt (tgt := 21) F (by omega) (by omega) dX3_gradeOfHiss_16 (by decide) (fun h16 => ?_) (fun h16 => ?_)
      · skip
        refine lv_iload_n F.1 F.2.1 dX3_gradeOfHiss_21 rfl (lv_at hl 0 rfl) ?_
        refine lv_bipush (v := nI 20) F.1 F.2.1 dX3_gradeOfHiss_22 (by decide) ?_
        refine k_icmp_gt (tgt := 31) F (by omega) (by omega) dX3_gradeOfHiss_24 (by decide) (fun h24 => ?_) (fun h24 => ?_)
        · skip
          refine lv_iconst (v := nI 4) F.1 F.2.1 dX3_gradeOfHiss_31 (by decide) ?_
          exact k_retP F hr hlk hS (by congr 1; unfold grdN; (repeat' split) <;> omega) rfl dX3_gradeOfHiss_32
        · skip
          refine lv_iconst (v := nI 3) F.1 F.2.1 dX3_gradeOfHiss_27 (by decide) ?_
          refine lv_goto (tgt := 32) F.1 F.2.1 dX3_gradeOfHiss_28 (by decide) ?_
          exact k_retP F hr hlk hS (by congr 1; unfold grdN; (repeat' split) <;> omega) rfl dX3_gradeOfHiss_32
      · skip
        refine lv_iconst (v := nI 2) F.1 F.2.1 dX3_gradeOfHiss_19 (by decide) ?_
        exact k_retP F hr hlk hS (by congr 1; unfold grdN; (repeat' split) <;> omega) rfl dX3_gradeOfHiss_20
    · skip
      refine lv_iconst (v := nI 1) F.1 F.2.1 dX3_gradeOfHiss_11 (by decide) ?_
      exact k_retP F hr hlk hS (by congr 1; unfold grdN; (repeat' split) <;> omega) rfl dX3_gradeOfHiss_12
  · skip
    refine lv_iconst (v := nI 0) F.1 F.2.1 dX3_gradeOfHiss_4 (by decide) ?_
    exact k_retP F hr hlk hS (by congr 1; unfold grdN; (repeat' split) <;> omega) rfl dX3_gradeOfHiss_5
theorem nX0_hasGate_X0 : ∀ x ∈ wsX00, x ∈ wsX0_hasGate := fun _ h => List.mem_cons_of_mem _ (List.mem_append_right _ h)
set_option maxRecDepth 100000 in
set_option maxHeartbeats 4000000 in
theorem c_X0_hasGate (l : Launch) (D : va_G) (cI : ClassId) (a : Nat → Nat) (S : Nat → Nat → Nat) (g : Int32) : PI l yX0_hasGate wsX0_hasGate 0 0 D [(cI, .int)] [.ref (a 0), .int g] (wFa cI a S) (bI (0 ≤ g ∧ g < nI (S 0 0))) := by
  refine k_bodyP (cc := cX0_hasGate) (maxL := 2) (ret := (some .boolean)) (by decide) rfl (Nat.le_of_ble_eq_true rfl) ?_
  intro p e s m args below meth c H ls F hr hlk hl hP hK hS
  have F : CallFix p m c cX0_hasGate 2 s args wsX0_hasGate RX0 := F
  have hl : lv_has ls 2 [(0, .ref (a 0)), (1, .int g)] := hl
  refine lv_iload_n F.1 F.2.1 dX0_hasGate_0 rfl (lv_at hl 1 rfl) ?_
  refine lv_if_lt (tgt := 16) F.1 F.2.1 dX0_hasGate_1 (by decide) (fun h1 => ?_) (fun h1 => ?_)
  · skip
    refine lv_iconst (v := nI 0) F.1 F.2.1 dX0_hasGate_16 (by decide) ?_
    exact k_retP F hr hlk hS (fin0 (by first | exact fun q => absurd h1 (Int32.not_lt.mpr q.1) | exact fun q => absurd h9 (Int32.not_le.mpr q.2))) (by first | rfl | (split <;> rfl)) dX0_hasGate_17
  · skip
    refine lv_iload_n F.1 F.2.1 dX0_hasGate_4 rfl (lv_at hl 1 rfl) ?_
    refine lv_aload_n F.1 F.2.1 dX0_hasGate_5 rfl (lv_at hl 0 rfl) ?_
    refine k_get (v := .int (nI (S 0 0))) F nX0_hasGate_X0 hK.1 hP 0 rfl rfl 0 (by decide) (List.mem_of_getElem? (i := 1) rfl) rfl dX0_hasGate_6 ?_
    refine lv_icmp_ge (tgt := 16) F.1 F.2.1 dX0_hasGate_9 (by decide) (fun h9 => ?_) (fun h9 => ?_)
    · skip
      refine lv_iconst (v := nI 0) F.1 F.2.1 dX0_hasGate_16 (by decide) ?_
      exact k_retP F hr hlk hS (fin0 (by first | exact fun q => absurd h1 (Int32.not_lt.mpr q.1) | exact fun q => absurd h9 (Int32.not_le.mpr q.2))) (by first | rfl | (split <;> rfl)) dX0_hasGate_17
    · skip
      refine lv_iconst (v := nI 1) F.1 F.2.1 dX0_hasGate_12 (by decide) ?_
      refine lv_goto (tgt := 17) F.1 F.2.1 dX0_hasGate_13 (by decide) ?_
      exact k_retP F hr hlk hS (fin1 (by exact ⟨Int32.not_lt.mp h1, Int32.not_le.mp h9⟩)) (by first | rfl | (split <;> rfl)) dX0_hasGate_17
theorem nX0_putGate_X0 : ∀ x ∈ wsX00, x ∈ wsX0_putGate := fun _ h => List.mem_cons_of_mem _ (List.mem_append_right _ h)
set_option maxRecDepth 100000 in
set_option maxHeartbeats 4000000 in
theorem c_X0_putGate (l : Launch) (D : va_G) (cI : ClassId) (a : Nat → Nat) (S : Nat → Nat → Nat) (r : Nat) (hk : S 0 0 < 6) : MI l yX0_putGate wsX0_putGate 0 0 D [(cI, .int)] [.ref (a 0), .int (nI r)] (wFa cI a S) (wFa cI a (setf (setf S 1 (S 0 0) r) 0 0 (S 0 0 + 1))) (nI (S 0 0)) := by
  refine k_bodyM (cc := cX0_putGate) (maxL := 3) (ret := (some .int)) (by decide) rfl (Nat.le_of_ble_eq_true rfl) ?_
  intro p e s m args below meth c H ls F hr hlk hl hP hK hD hS
  have F : CallFix p m c cX0_putGate 3 s args wsX0_putGate RX0 := F
  have hl : lv_has ls 3 [(0, .ref (a 0)), (1, .int (nI r))] := hl
  refine lv_aload_n F.1 F.2.1 dX0_putGate_0 rfl (lv_at hl 0 rfl) ?_
  refine k_get (v := .int (nI (S 0 0))) F nX0_putGate_X0 hK.1 hP 0 rfl rfl 0 (by decide) (List.mem_of_getElem? (i := 1) rfl) rfl dX0_putGate_1 ?_
  refine lv_istore_n (lv' := [(2, .int (nI (S 0 0))), (0, .ref (a 0)), (1, .int (nI r))]) F.1 F.2.1 dX0_putGate_4 rfl hl (by decide) rfl (fun ls hl => ?_)
  refine lv_aload_n F.1 F.2.1 dX0_putGate_5 rfl (lv_at hl 1 rfl) ?_
  refine k_get (v := .ref (a 1)) F nX0_putGate_X0 hK.1 hP 0 rfl rfl 1 (by decide) (List.mem_of_getElem? (i := 2) rfl) rfl dX0_putGate_6 ?_
  refine lv_iload_n F.1 F.2.1 dX0_putGate_9 rfl (lv_at hl 0 rfl) ?_
  refine lv_iload_n F.1 F.2.1 dX0_putGate_10 rfl (lv_at hl 2 rfl) ?_
  refine k_iast (f := S 1) (n := 6) (k := (S 0 0)) (x := r) F hK.1 hP hD hS 1 0 rfl rfl (by omega) (by decide) dX0_putGate_11 (wFa cI a (setf S 1 (S 0 0) r)) rfl (fun H locs hP hD hS => ?_)
  refine lv_aload_n F.1 F.2.1 dX0_putGate_12 rfl (lv_at hl 1 rfl) ?_
  refine lv_dup F.1 F.2.1 dX0_putGate_13 rfl ?_
  refine k_get (v := .int (nI (S 0 0))) F nX0_putGate_X0 hK.1 hP 0 rfl rfl 0 (by decide) (List.mem_of_getElem? (i := 1) rfl) rfl dX0_putGate_14 ?_
  refine lv_iconst (v := nI 1) F.1 F.2.1 dX0_putGate_17 (by decide) ?_
  refine k_iadd F dX0_putGate_18 ?_
  refine k_put F nX0_putGate_X0 tyX0 tyX0_ok nmX0 hK.1 hP hD hS 0 rfl rfl 0 (by decide) (List.mem_of_getElem? (i := 1) rfl) rfl (by decide +kernel) (Nat.le_of_ble_eq_true rfl) dX0_putGate_19 (wFa cI a (setf (setf S 1 (S 0 0) r) 0 0 (S 0 0 + 1))) rfl (fun H locs hP hD hS => ?_)
  refine lv_iload_n F.1 F.2.1 dX0_putGate_22 rfl (lv_at hl 0 rfl) ?_
  exact k_retMI F hr hlk hP rfl hS (by first | rfl | (simp [*]; done) | omega) rfl dX0_putGate_23
theorem nX0_rankLack_X0 : ∀ x ∈ wsX00, x ∈ wsX0_rankLack := fun _ h => List.mem_cons_of_mem _ (List.mem_append_right _ h)
set_option maxRecDepth 100000 in
set_option maxHeartbeats 4000000 in
theorem c_X0_rankLack (l : Launch) (D : va_G) (cI : ClassId) (a : Nat → Nat) (S : Nat → Nat → Nat) (g : Nat) (r : Nat) (hI : Inv S) (hg : g < 2 ^ 31) (hr : r < 2 ^ 30) : PI l yX0_rankLack wsX0_rankLack 1 21 D [(cI, .int)] [.ref (a 0), .int (nI g), .int (nI r)] (wFa cI a S) (nI (lackN S g r)) := by
  refine k_bodyP (cc := cX0_rankLack) (maxL := 3) (ret := (some .int)) (by decide) rfl (Nat.le_of_ble_eq_true rfl) ?_
  intro p e s m args below meth c H ls F hr hlk hl hP hK hS
  have F : CallFix p m c cX0_rankLack 3 s args wsX0_rankLack RX0 := F
  have hl : lv_has ls 3 [(0, .ref (a 0)), (1, .int (nI g)), (2, .int (nI r))] := hl
  have hi0 := hI.gates
  have hi1 := hI.geese
  have hi2 := hI.guests
  refine lv_aload_n F.1 F.2.1 dX0_rankLack_0 rfl (lv_at hl 0 rfl) ?_
  refine lv_iload_n F.1 F.2.1 dX0_rankLack_1 rfl (lv_at hl 1 rfl) ?_
  refine k_pV (n := 1) (rest := []) (v := bI (0 ≤ nI g ∧ nI g < nI (S 0 0))) F (c_X0_hasGate l D cI a S (nI g)) gX0_rankLack_X0_hasGate rfl (by decide +kernel) ⟨Nat.le_of_ble_eq_true rfl, Nat.le_of_ble_eq_true rfl⟩ rfl hl.1 rfl (Nat.le_of_ble_eq_true rfl) dX0_rankLack_2 ⟨Nat.zero_le _, Nat.zero_le _⟩ hK hP hS [0, 1, 2, 3, 4, 5, 6, 7, 8, 9, 10, 11, 12] rfl (q0 := 0) (ci := 0) rfl rfl (fun H locs hP hS => ?_)
  refine k_ifeq_b (tgt := 23) F dX0_rankLack_5 (by decide) (fun h5 => ?_) (fun h5 => ?_)
  · skip
    refine lv_iconst (v := nI 0) F.1 F.2.1 dX0_rankLack_23 (by decide) ?_
    exact k_retP F hr hlk hS (by unfold lackN; rw [if_neg (fun q => h5 ⟨nI_pos' (by omega), nI_lt q (by omega)⟩)]) rfl dX0_rankLack_24
  · skip
    have hg9 : g < S 0 0 := (nI_ltI (by omega) (by omega)).mp h5.2
    refine lv_iconst (v := nI 0) F.1 F.2.1 dX0_rankLack_8 (by decide) ?_
    refine lv_aload_n F.1 F.2.1 dX0_rankLack_9 rfl (lv_at hl 0 rfl) ?_
    refine k_get (v := .ref (a 1)) F nX0_rankLack_X0 hK.1 hP 0 rfl rfl 1 (by decide) (List.mem_of_getElem? (i := 1) rfl) rfl dX0_rankLack_10 ?_
    refine lv_iload_n F.1 F.2.1 dX0_rankLack_13 rfl (lv_at hl 1 rfl) ?_
    refine k_iald (f := S 1) (n := 6) F hK.1 hP 1 0 rfl rfl (by omega) (by decide) dX0_rankLack_14 ?_
    have := hI.rank g
    refine lv_iload_n F.1 F.2.1 dX0_rankLack_15 rfl (lv_at hl 2 rfl) ?_
    refine lv_isub F.1 F.2.1 dX0_rankLack_16 ?_
    refine k_max0 F hl.1 (List.mem_of_getElem? (i := 2) rfl) (List.mem_of_getElem? (i := 3) rfl) (List.mem_of_getElem? (i := 4) rfl) (List.mem_of_getElem? (i := 5) rfl) (Nat.le_of_ble_eq_true rfl) (Nat.le_of_ble_eq_true rfl) ⟨Nat.zero_le _, Nat.zero_le _⟩ (by omega) (by omega) (by omega) dX0_rankLack_17 ?_
    refine lv_goto (tgt := 24) F.1 F.2.1 dX0_rankLack_20 (by decide) ?_
    exact k_retP F hr hlk hS (by unfold lackN; rw [if_pos hg9]) rfl dX0_rankLack_24
theorem nX0_gateHiss_X0 : ∀ x ∈ wsX00, x ∈ wsX0_gateHiss := fun _ h => List.mem_cons_of_mem _ (List.mem_append_left _ (List.mem_append_right _ h))
set_option maxRecDepth 100000 in
set_option maxHeartbeats 4000000 in
theorem c_X0_gateHiss (l : Launch) (D : va_G) (cI : ClassId) (a : Nat → Nat) (S : Nat → Nat → Nat) (g : Nat) (r : Nat) (hI : Inv S) (hg : g < 2 ^ 31) (hr : r < 2 ^ 30) : PI l yX0_gateHiss wsX0_gateHiss 2 46 D [(cI, .int)] [.ref (a 0), .int (nI g), .int (nI r)] (wFa cI a S) (nI (hisG S g r)) := by
  refine k_bodyP (cc := cX0_gateHiss) (maxL := 3) (ret := (some .int)) (by decide) rfl (Nat.le_of_ble_eq_true rfl) ?_
  intro p e s m args below meth c H ls F hr hlk hl hP hK hS
  have F : CallFix p m c cX0_gateHiss 3 s args wsX0_gateHiss RX0 := F
  have hl : lv_has ls 3 [(0, .ref (a 0)), (1, .int (nI g)), (2, .int (nI r))] := hl
  refine lv_aload_n F.1 F.2.1 dX0_gateHiss_0 rfl (lv_at hl 0 rfl) ?_
  refine k_get (v := .ref (a 2)) F nX0_gateHiss_X0 hK.1 hP 0 rfl rfl 2 (by decide) (List.mem_of_getElem? (i := 1) rfl) rfl dX0_gateHiss_1 ?_
  refine lv_iload_n F.1 F.2.1 dX0_gateHiss_4 rfl (lv_at hl 1 rfl) ?_
  refine lv_aload_n F.1 F.2.1 dX0_gateHiss_5 rfl (lv_at hl 0 rfl) ?_
  refine lv_iload_n F.1 F.2.1 dX0_gateHiss_6 rfl (lv_at hl 1 rfl) ?_
  refine lv_iload_n F.1 F.2.1 dX0_gateHiss_7 rfl (lv_at hl 2 rfl) ?_
  refine k_pV (n := 2) (rest := [.int (nI g), .ref (a 2)]) (v := nI (lackN S g r)) F (c_X0_rankLack l D cI a S g r hI (by first | assumption | omega) (by first | assumption | omega)) gX0_gateHiss_X0_rankLack rfl (by decide +kernel) ⟨Nat.le_of_ble_eq_true rfl, Nat.le_of_ble_eq_true rfl⟩ rfl hl.1 rfl (Nat.le_of_ble_eq_true rfl) dX0_gateHiss_8 ⟨Nat.zero_le _, Nat.zero_le _⟩ hK hP hS [0, 1, 2, 3, 4, 5, 6, 7, 8, 9, 10, 11, 12] rfl (q0 := 0) (ci := 0) rfl rfl (fun H locs hP hS => ?_)
  refine k_pV (n := 2) (rest := []) (v := nI (hisN S g (lackN S g r) (S 0 1))) F (c_X1_hissThere l D cI a S g (lackN S g r) hI.bd (by first | assumption | omega)) gX0_gateHiss_X1_hissThere rfl (by decide +kernel) ⟨Nat.le_of_ble_eq_true rfl, Nat.le_of_ble_eq_true rfl⟩ rfl hl.1 rfl (Nat.le_of_ble_eq_true rfl) dX0_gateHiss_11 ⟨Nat.zero_le _, Nat.zero_le _⟩ hK hP hS [2, 3, 4, 5, 6] rfl (q0 := 2) (ci := 1) rfl rfl (fun H locs hP hS => ?_)
  exact k_retP F hr hlk hS rfl rfl dX0_gateHiss_14
theorem nX0_guestHiss_X0 : ∀ x ∈ wsX00, x ∈ wsX0_guestHiss := fun _ h => List.mem_cons_of_mem _ (List.mem_append_left _ (List.mem_append_left _ (List.mem_append_right _ h)))
theorem nX0_guestHiss_X2 : ∀ x ∈ wsX20, x ∈ wsX0_guestHiss := fun _ h => List.mem_cons_of_mem _ (List.mem_append_left _ (List.mem_append_right _ h))
set_option maxRecDepth 100000 in
set_option maxHeartbeats 4000000 in
theorem c_X0_guestHiss (l : Launch) (D : va_G) (cI : ClassId) (a : Nat → Nat) (S : Nat → Nat → Nat) (v : Nat) (hI : Inv S) (hv : v < 8) : PI l yX0_guestHiss wsX0_guestHiss 3 68 D [(cI, .int)] [.ref (a 0), .int (nI v)] (wFa cI a S) (nI (hisG S (S 7 v) (S 6 v))) := by
  refine k_bodyP (cc := cX0_guestHiss) (maxL := 2) (ret := (some .int)) (by decide) rfl (Nat.le_of_ble_eq_true rfl) ?_
  intro p e s m args below meth c H ls F hr hlk hl hP hK hS
  have F : CallFix p m c cX0_guestHiss 2 s args wsX0_guestHiss RX0 := F
  have hl : lv_has ls 2 [(0, .ref (a 0)), (1, .int (nI v))] := hl
  have hi0 := hI.gates
  have hi1 := hI.geese
  have hi2 := hI.guests
  refine lv_aload_n F.1 F.2.1 dX0_guestHiss_0 rfl (lv_at hl 0 rfl) ?_
  refine lv_aload_n F.1 F.2.1 dX0_guestHiss_1 rfl (lv_at hl 0 rfl) ?_
  refine k_get (v := .ref (a 7)) F nX0_guestHiss_X0 hK.1 hP 0 rfl rfl 3 (by decide) (List.mem_of_getElem? (i := 1) rfl) rfl dX0_guestHiss_2 ?_
  refine k_get (v := .ref (a 11)) F nX0_guestHiss_X2 hK.1 hP 7 rfl rfl 4 (by decide) (List.mem_of_getElem? (i := 2) rfl) rfl dX0_guestHiss_5 ?_
  refine lv_iload_n F.1 F.2.1 dX0_guestHiss_8 rfl (lv_at hl 1 rfl) ?_
  refine k_iald (f := S 7) (n := 8) F hK.1 hP 11 0 rfl rfl (by omega) (by decide) dX0_guestHiss_9 ?_
  have := hI.went v
  refine lv_aload_n F.1 F.2.1 dX0_guestHiss_10 rfl (lv_at hl 0 rfl) ?_
  refine k_get (v := .ref (a 7)) F nX0_guestHiss_X0 hK.1 hP 0 rfl rfl 3 (by decide) (List.mem_of_getElem? (i := 1) rfl) rfl dX0_guestHiss_11 ?_
  refine k_get (v := .ref (a 8)) F nX0_guestHiss_X2 hK.1 hP 7 rfl rfl 1 (by decide) (List.mem_of_getElem? (i := 3) rfl) rfl dX0_guestHiss_14 ?_
  refine lv_iload_n F.1 F.2.1 dX0_guestHiss_17 rfl (lv_at hl 1 rfl) ?_
  refine k_iald (f := S 6) (n := 8) F hK.1 hP 8 0 rfl rfl (by omega) (by decide) dX0_guestHiss_18 ?_
  have := hI.own v
  refine k_pV (n := 2) (rest := []) (v := nI (hisG S (S 7 v) (S 6 v))) F (c_X0_gateHiss l D cI a S (S 7 v) (S 6 v) hI (by first | assumption | omega) (by first | assumption | omega)) gX0_guestHiss_X0_gateHiss rfl (by decide +kernel) ⟨Nat.le_of_ble_eq_true rfl, Nat.le_of_ble_eq_true rfl⟩ rfl hl.1 rfl (Nat.le_of_ble_eq_true rfl) dX0_guestHiss_19 ⟨Nat.zero_le _, Nat.zero_le _⟩ hK hP hS [0, 1, 2, 3, 4, 5, 6, 7, 8, 9, 10, 11, 12] rfl (q0 := 0) (ci := 0) rfl rfl (fun H locs hP hS => ?_)
  exact k_retP F hr hlk hS rfl rfl dX0_guestHiss_22
theorem nX0_isBehindAll_X0 : ∀ x ∈ wsX00, x ∈ wsX0_isBehindAll := fun _ h => List.mem_cons_of_mem _ (List.mem_append_left _ (List.mem_append_right _ h))
theorem nX0_isBehindAll_X2 : ∀ x ∈ wsX20, x ∈ wsX0_isBehindAll := fun _ h => List.mem_cons_of_mem _ (List.mem_append_right _ h)
set_option maxRecDepth 100000 in
set_option maxHeartbeats 4000000 in
theorem c_X0_isBehindAll (l : Launch) (D : va_G) (cI : ClassId) (a : Nat → Nat) (S : Nat → Nat → Nat) (v : Nat) (hI : Inv S) (hv : v < 8) : PI l yX0_isBehindAll wsX0_isBehindAll 0 0 D [(cI, .int)] [.ref (a 0), .int (nI v)] (wFa cI a S) (bI (S 0 0 ≤ S 7 v)) := by
  refine k_bodyP (cc := cX0_isBehindAll) (maxL := 2) (ret := (some .boolean)) (by decide) rfl (Nat.le_of_ble_eq_true rfl) ?_
  intro p e s m args below meth c H ls F hr hlk hl hP hK hS
  have F : CallFix p m c cX0_isBehindAll 2 s args wsX0_isBehindAll RX0 := F
  have hl : lv_has ls 2 [(0, .ref (a 0)), (1, .int (nI v))] := hl
  have hi0 := hI.gates
  have hi1 := hI.geese
  have hi2 := hI.guests
  refine lv_aload_n F.1 F.2.1 dX0_isBehindAll_0 rfl (lv_at hl 0 rfl) ?_
  refine k_get (v := .ref (a 7)) F nX0_isBehindAll_X0 hK.1 hP 0 rfl rfl 3 (by decide) (List.mem_of_getElem? (i := 1) rfl) rfl dX0_isBehindAll_1 ?_
  refine k_get (v := .ref (a 11)) F nX0_isBehindAll_X2 hK.1 hP 7 rfl rfl 4 (by decide) (List.mem_of_getElem? (i := 2) rfl) rfl dX0_isBehindAll_4 ?_
  refine lv_iload_n F.1 F.2.1 dX0_isBehindAll_7 rfl (lv_at hl 1 rfl) ?_
  refine k_iald (f := S 7) (n := 8) F hK.1 hP 11 0 rfl rfl (by omega) (by decide) dX0_isBehindAll_8 ?_
  have := hI.went v
  refine lv_aload_n F.1 F.2.1 dX0_isBehindAll_9 rfl (lv_at hl 0 rfl) ?_
  refine k_get (v := .int (nI (S 0 0))) F nX0_isBehindAll_X0 hK.1 hP 0 rfl rfl 0 (by decide) (List.mem_of_getElem? (i := 3) rfl) rfl dX0_isBehindAll_10 ?_
  refine k_icmp_lt (tgt := 20) F (by omega) (by omega) dX0_isBehindAll_13 (by decide) (fun h13 => ?_) (fun h13 => ?_)
  · skip
    refine lv_iconst (v := nI 0) F.1 F.2.1 dX0_isBehindAll_20 (by decide) ?_
    exact k_retP F hr hlk hS (fin0 (by omega)) (by first | rfl | (split <;> rfl)) dX0_isBehindAll_21
  · skip
    refine lv_iconst (v := nI 1) F.1 F.2.1 dX0_isBehindAll_16 (by decide) ?_
    refine lv_goto (tgt := 21) F.1 F.2.1 dX0_isBehindAll_17 (by decide) ?_
    exact k_retP F hr hlk hS (fin1 (by omega)) (by first | rfl | (split <;> rfl)) dX0_isBehindAll_21
theorem nX0_countInside_X0 : ∀ x ∈ wsX00, x ∈ wsX0_countInside := fun _ h => List.mem_cons_of_mem _ (List.mem_append_left _ (List.mem_append_right _ h))
theorem nX0_countInside_X2 : ∀ x ∈ wsX20, x ∈ wsX0_countInside := fun _ h => List.mem_cons_of_mem _ (List.mem_append_right _ h)
set_option maxRecDepth 100000 in
set_option maxHeartbeats 4000000 in
theorem c_X0_countInside (l : Launch) (D : va_G) (cI : ClassId) (a : Nat → Nat) (S : Nat → Nat → Nat) (hI : Inv S) : PI l yX0_countInside wsX0_countInside 1 21 D [(cI, .int)] [.ref (a 0)] (wFa cI a S) (nI (inN S (S 0 2))) := by
  refine k_bodyP (cc := cX0_countInside) (maxL := 3) (ret := (some .int)) (by decide) rfl (Nat.le_of_ble_eq_true rfl) ?_
  intro p e s m args below meth c H ls F hr hlk hl hP hK hS
  have F : CallFix p m c cX0_countInside 3 s args wsX0_countInside RX0 := F
  have hl : lv_has ls 3 [(0, .ref (a 0))] := hl
  have hi0 := hI.gates
  have hi1 := hI.geese
  have hi2 := hI.guests
  refine lv_iconst (v := nI 0) F.1 F.2.1 dX0_countInside_0 (by decide) ?_
  refine lv_istore_n (lv' := [(1, .int (nI 0)), (0, .ref (a 0))]) F.1 F.2.1 dX0_countInside_1 rfl hl (by decide) rfl (fun ls hl => ?_)
  refine lv_iconst (v := nI 0) F.1 F.2.1 dX0_countInside_2 (by decide) ?_
  refine lv_istore_n (lv' := [(2, .int (nI 0)), (1, .int (nI 0)), (0, .ref (a 0))]) F.1 F.2.1 dX0_countInside_3 rfl hl (by decide) rfl (fun ls hl => ?_)
  have loop4 : ∀ (n : Nat) (i : Nat), i ≤ S 0 2 → S 0 2 + 1 ≤ i + n → ∀ (H : Heap) (locs : List Loc) (ls : Array Slot), va_P D vwCl (wFa cI a S) H → va_S (fun _ => False) s.heap H locs → lv_has ls 3 [(0, .ref (a 0)), (1, .int (nI (inN S i))), (2, .int (nI i))] → W p l e (rmN 1 21) s m args below meth c H locs 0 0 (QPI below args s (nI (inN S (S 0 2)))) (F0 m 4 ls []) := by
    intro n
    induction n with
    | zero => intro i hi hn; exact absurd hn (by omega)
    | succ n ih4 =>
      intro i hi hn  H locs ls hP hS hl
      refine lv_iload_n F.1 F.2.1 dX0_countInside_4 rfl (lv_at hl 2 rfl) ?_
      refine lv_aload_n F.1 F.2.1 dX0_countInside_5 rfl (lv_at hl 0 rfl) ?_
      refine k_get (v := .ref (a 7)) F nX0_countInside_X0 hK.1 hP 0 rfl rfl 3 (by decide) (List.mem_of_getElem? (i := 1) rfl) rfl dX0_countInside_6 ?_
      refine k_get (v := .int (nI (S 0 2))) F nX0_countInside_X2 hK.1 hP 7 rfl rfl 0 (by decide) (List.mem_of_getElem? (i := 2) rfl) rfl dX0_countInside_9 ?_
      refine k_icmp_ge (tgt := 32) F (by omega) (by omega) dX0_countInside_12 (by decide) (fun h12 => ?_) (fun h12 => ?_)
      · skip
        refine lv_iload_n F.1 F.2.1 dX0_countInside_32 rfl (lv_at hl 1 rfl) ?_
        exact k_retP F hr hlk hS (by rw [show i = S 0 2 by omega]) rfl dX0_countInside_33
      · skip
        refine lv_aload_n F.1 F.2.1 dX0_countInside_15 rfl (lv_at hl 0 rfl) ?_
        refine lv_iload_n F.1 F.2.1 dX0_countInside_16 rfl (lv_at hl 2 rfl) ?_
        refine k_pV (n := 1) (rest := []) (v := bI (S 0 0 ≤ S 7 i)) F (c_X0_isBehindAll l D cI a S i hI (by first | assumption | omega)) gX0_countInside_X0_isBehindAll rfl (by decide +kernel) ⟨Nat.le_of_ble_eq_true rfl, Nat.le_of_ble_eq_true rfl⟩ rfl hl.1 rfl (Nat.le_of_ble_eq_true rfl) dX0_countInside_17 ⟨Nat.zero_le _, Nat.zero_le _⟩ hK hP hS [0, 1, 2, 3, 4, 5, 6, 7, 8, 9, 10, 11, 12] rfl (q0 := 0) (ci := 0) rfl rfl (fun H locs hP hS => ?_)
        refine k_ifeq_b (tgt := 26) F dX0_countInside_20 (by decide) (fun h20 => ?_) (fun h20 => ?_)
        · skip
          refine k_inc (k := 2) (lv' := [(2, .int (nI (i + 1))), (0, .ref (a 0)), (1, .int (nI (inN S i)))]) F dX0_countInside_26 hl rfl (by decide) rfl (fun ls hl => ?_)
          refine lv_goto (tgt := 4) F.1 F.2.1 dX0_countInside_29 (by decide) ?_
          have e_1 : inN S i = inN S (i + 1) := by first | rfl | (simp [inN, *]; done)
          rw [e_1] at hl
          exact ih4 (i + 1) (by omega) (by omega)  _ _ _ hP hS (lv_sub hl [1, 2, 0] rfl)
        · skip
          refine k_inc (k := 1) (lv' := [(1, .int (nI (inN S i + 1))), (0, .ref (a 0)), (2, .int (nI i))]) F dX0_countInside_23 hl rfl (by decide) rfl (fun ls hl => ?_)
          refine k_inc (k := 2) (lv' := [(2, .int (nI (i + 1))), (1, .int (nI (inN S i + 1))), (0, .ref (a 0))]) F dX0_countInside_26 hl rfl (by decide) rfl (fun ls hl => ?_)
          refine lv_goto (tgt := 4) F.1 F.2.1 dX0_countInside_29 (by decide) ?_
          have e_2 : (inN S i + 1) = inN S (i + 1) := by first | rfl | (simp [inN, *]; done)
          rw [e_2] at hl
          exact ih4 (i + 1) (by omega) (by omega)  _ _ _ hP hS (lv_sub hl [2, 1, 0] rfl)
  have e_3 : 0 = inN S 0 := by first | rfl | (simp [inN, *]; done)
  rw [e_3] at hl
  exact loop4 ((S 0 2) + 1) 0 (by omega) (by omega)  _ _ _ hP hS (lv_sub hl [2, 1, 0] rfl)
theorem nX0_payGoose_X0 : ∀ x ∈ wsX00, x ∈ wsX0_payGoose := fun _ h => List.mem_cons_of_mem _ (List.mem_append_left _ (List.mem_append_left _ (List.mem_append_right _ h)))
theorem nX0_payGoose_X2 : ∀ x ∈ wsX20, x ∈ wsX0_payGoose := fun _ h => List.mem_cons_of_mem _ (List.mem_append_left _ (List.mem_append_right _ h))
set_option maxRecDepth 100000 in
set_option maxHeartbeats 4000000 in
theorem c_X0_payGoose (l : Launch) (D : va_G) (cI : ClassId) (a : Nat → Nat) (S : Nat → Nat → Nat) (v : Nat) (k : Nat) (hI : Inv S) (hv : v < 8) (hk : k < 8) (h1 : 1 ≤ S 8 v) (hm : 1 ≤ S 3 k) : MV l yX0_payGoose wsX0_payGoose 2 36 D [(cI, .int)] [.ref (a 0), .int (nI v), .int (nI k)] (wFa cI a S) (wFa cI a (payS S v k)) := by
  refine k_bodyM (cc := cX0_payGoose) (maxL := 3) (ret := none) (by decide) rfl (Nat.le_of_ble_eq_true rfl) ?_
  intro p e s m args below meth c H ls F hr hlk hl hP hK hD hS
  have F : CallFix p m c cX0_payGoose 3 s args wsX0_payGoose RX0 := F
  have hl : lv_has ls 3 [(0, .ref (a 0)), (1, .int (nI v)), (2, .int (nI k))] := hl
  have hi0 := hI.gates
  have hi1 := hI.geese
  have hi2 := hI.guests
  refine lv_aload_n F.1 F.2.1 dX0_payGoose_0 rfl (lv_at hl 0 rfl) ?_
  refine k_get (v := .ref (a 7)) F nX0_payGoose_X0 hK.1 hP 0 rfl rfl 3 (by decide) (List.mem_of_getElem? (i := 1) rfl) rfl dX0_payGoose_1 ?_
  refine k_get (v := .ref (a 10)) F nX0_payGoose_X2 hK.1 hP 7 rfl rfl 3 (by decide) (List.mem_of_getElem? (i := 2) rfl) rfl dX0_payGoose_4 ?_
  refine lv_iload_n F.1 F.2.1 dX0_payGoose_7 rfl (lv_at hl 1 rfl) ?_
  refine lv_dup2_11 F.1 F.2.1 dX0_payGoose_8 rfl rfl ?_
  refine k_iald (f := S 8) (n := 8) F hK.1 hP 10 0 rfl rfl (by omega) (by decide) dX0_payGoose_9 ?_
  have := hI.has v
  refine lv_iconst (v := nI 1) F.1 F.2.1 dX0_payGoose_10 (by decide) ?_
  refine k_isub F (by omega) dX0_payGoose_11 ?_
  refine k_iast (f := S 8) (n := 8) (k := v) (x := (S 8 v - 1)) F hK.1 hP hD hS 10 0 rfl rfl (by omega) (by decide) dX0_payGoose_12 (wFa cI a (setf S 8 v (S 8 v - 1))) rfl (fun H locs hP hD hS => ?_)
  refine lv_aload_n F.1 F.2.1 dX0_payGoose_13 rfl (lv_at hl 0 rfl) ?_
  refine k_get (v := .ref (a 2)) F nX0_payGoose_X0 hK.1 hP 0 rfl rfl 2 (by decide) (List.mem_of_getElem? (i := 3) rfl) rfl dX0_payGoose_14 ?_
  refine lv_iload_n F.1 F.2.1 dX0_payGoose_17 rfl (lv_at hl 2 rfl) ?_
  refine k_mV (n := 1) (rest := []) F (c_X1_feed l D cI a (setf S 8 v (S 8 v - 1)) k hI.bd (by first | assumption | omega) (by first | assumption | omega)) gX0_payGoose_X1_feed rfl (by decide +kernel) ⟨Nat.le_of_ble_eq_true rfl, Nat.le_of_ble_eq_true rfl⟩ rfl hl.1 rfl (Nat.le_of_ble_eq_true rfl) dX0_payGoose_18 ⟨Nat.zero_le _, Nat.zero_le _⟩ hK hP hD hS [2, 3, 4, 5, 6] rfl rfl rfl (wFa cI a (setf (setf (setf (setf S 8 v (S 8 v - 1)) 5 k (S 5 k + 1)) 4 k 3) 3 k (max 1 (S 3 k - 1)))) rfl rfl (q0 := 2) (ci := 1) rfl rfl (fun H locs hP hD hS => ?_)
  refine lv_aload_n F.1 F.2.1 dX0_payGoose_21 rfl (lv_at hl 0 rfl) ?_
  refine lv_dup F.1 F.2.1 dX0_payGoose_22 rfl ?_
  refine k_get (v := .int (nI (S 0 4))) F nX0_payGoose_X0 hK.1 hP 0 rfl rfl 5 (by decide) (List.mem_of_getElem? (i := 4) rfl) rfl dX0_payGoose_23 ?_
  refine lv_iconst (v := nI 1) F.1 F.2.1 dX0_payGoose_26 (by decide) ?_
  refine k_iadd F dX0_payGoose_27 ?_
  refine k_put F nX0_payGoose_X0 tyX0 tyX0_ok nmX0 hK.1 hP hD hS 0 rfl rfl 5 (by decide) (List.mem_of_getElem? (i := 4) rfl) rfl (by decide +kernel) (Nat.le_of_ble_eq_true rfl) dX0_payGoose_28 (wFa cI a (setf (setf (setf (setf (setf S 8 v (S 8 v - 1)) 5 k (S 5 k + 1)) 4 k 3) 3 k (max 1 (S 3 k - 1))) 0 4 (S 0 4 + 1))) rfl (fun H locs hP hD hS => ?_)
  exact k_retMV F hr hlk hP rfl hS dX0_payGoose_31
theorem nX0_moveGuest_X0 : ∀ x ∈ wsX00, x ∈ wsX0_moveGuest := fun _ h => List.mem_cons_of_mem _ (List.mem_append_left _ (List.mem_append_left _ (List.mem_append_right _ h)))
theorem nX0_moveGuest_X2 : ∀ x ∈ wsX20, x ∈ wsX0_moveGuest := fun _ h => List.mem_cons_of_mem _ (List.mem_append_left _ (List.mem_append_right _ h))
set_option maxRecDepth 100000 in
set_option maxHeartbeats 4000000 in
theorem c_X0_moveGuest (l : Launch) (D : va_G) (cI : ClassId) (a : Nat → Nat) (S : Nat → Nat → Nat) (v : Nat) (hI : Inv S) (hv : v < 8) (hnb : ¬ S 0 0 ≤ S 7 v) : MV l yX0_moveGuest wsX0_moveGuest 3 68 D [(cI, .int)] [.ref (a 0), .int (nI v)] (wFa cI a S) (wFa cI a (moveS S v)) := by
  refine k_bodyM (cc := cX0_moveGuest) (maxL := 5) (ret := none) (by decide) rfl (Nat.le_of_ble_eq_true rfl) ?_
  intro p e s m args below meth c H ls F hr hlk hl hP hK hD hS
  have F : CallFix p m c cX0_moveGuest 5 s args wsX0_moveGuest RX0 := F
  have hl : lv_has ls 5 [(0, .ref (a 0)), (1, .int (nI v))] := hl
  have hi0 := hI.gates
  have hi1 := hI.geese
  have hi2 := hI.guests
  have hh9 := hisG_le hI (S 7 v) (S 6 v)
  have hw9 := hI.went v
  have ho9 := hI.own v
  have hb9 := hI.brave v
  have hc9 := hI.has v
  refine lv_aload_n F.1 F.2.1 dX0_moveGuest_0 rfl (lv_at hl 0 rfl) ?_
  refine k_get (v := .ref (a 7)) F nX0_moveGuest_X0 hK.1 hP 0 rfl rfl 3 (by decide) (List.mem_of_getElem? (i := 1) rfl) rfl dX0_moveGuest_1 ?_
  refine k_get (v := .ref (a 12)) F nX0_moveGuest_X2 hK.1 hP 7 rfl rfl 5 (by decide) (List.mem_of_getElem? (i := 2) rfl) rfl dX0_moveGuest_4 ?_
  refine lv_iload_n F.1 F.2.1 dX0_moveGuest_7 rfl (lv_at hl 1 rfl) ?_
  refine k_iald (f := S 10) (n := 8) F hK.1 hP 12 0 rfl rfl (by omega) (by decide) dX0_moveGuest_8 ?_
  have := hI.back v
  refine k_if_le (tgt := 26) F (by omega) dX0_moveGuest_9 (by decide) (fun h9 => ?_) (fun h9 => ?_)
  · skip
    refine lv_aload_n F.1 F.2.1 dX0_moveGuest_26 rfl (lv_at hl 0 rfl) ?_
    refine k_get (v := .ref (a 7)) F nX0_moveGuest_X0 hK.1 hP 0 rfl rfl 3 (by decide) (List.mem_of_getElem? (i := 1) rfl) rfl dX0_moveGuest_27 ?_
    refine k_get (v := .ref (a 11)) F nX0_moveGuest_X2 hK.1 hP 7 rfl rfl 4 (by decide) (List.mem_of_getElem? (i := 3) rfl) rfl dX0_moveGuest_30 ?_
    refine lv_iload_n F.1 F.2.1 dX0_moveGuest_33 rfl (lv_at hl 1 rfl) ?_
    refine k_iald (f := S 7) (n := 8) F hK.1 hP 11 0 rfl rfl (by omega) (by decide) dX0_moveGuest_34 ?_
    have := hI.went v
    refine lv_istore_n (lv' := [(2, .int (nI (S 7 v))), (0, .ref (a 0)), (1, .int (nI v))]) F.1 F.2.1 dX0_moveGuest_35 rfl hl (by decide) rfl (fun ls hl => ?_)
    refine lv_aload_n F.1 F.2.1 dX0_moveGuest_36 rfl (lv_at hl 1 rfl) ?_
    refine lv_iload_n F.1 F.2.1 dX0_moveGuest_37 rfl (lv_at hl 0 rfl) ?_
    refine lv_aload_n F.1 F.2.1 dX0_moveGuest_38 rfl (lv_at hl 1 rfl) ?_
    refine k_get (v := .ref (a 7)) F nX0_moveGuest_X0 hK.1 hP 0 rfl rfl 3 (by decide) (List.mem_of_getElem? (i := 1) rfl) rfl dX0_moveGuest_39 ?_
    refine k_get (v := .ref (a 8)) F nX0_moveGuest_X2 hK.1 hP 7 rfl rfl 1 (by decide) (List.mem_of_getElem? (i := 4) rfl) rfl dX0_moveGuest_42 ?_
    refine lv_iload_n F.1 F.2.1 dX0_moveGuest_45 rfl (lv_at hl 2 rfl) ?_
    refine k_iald (f := S 6) (n := 8) F hK.1 hP 8 0 rfl rfl (by omega) (by decide) dX0_moveGuest_46 ?_
    have := hI.own v
    refine k_pV (n := 2) (rest := []) (v := nI (hisG S (S 7 v) (S 6 v))) F (c_X0_gateHiss l D cI a S (S 7 v) (S 6 v) hI (by first | assumption | omega) (by first | assumption | omega)) gX0_moveGuest_X0_gateHiss rfl (by decide +kernel) ⟨Nat.le_of_ble_eq_true rfl, Nat.le_of_ble_eq_true rfl⟩ rfl hl.1 rfl (Nat.le_of_ble_eq_true rfl) dX0_moveGuest_47 ⟨Nat.zero_le _, Nat.zero_le _⟩ hK hP hS [0, 1, 2, 3, 4, 5, 6, 7, 8, 9, 10, 11, 12] rfl (q0 := 0) (ci := 0) rfl rfl (fun H locs hP hS => ?_)
    refine lv_istore_n (lv' := [(3, .int (nI (hisG S (S 7 v) (S 6 v)))), (2, .int (nI (S 7 v))), (0, .ref (a 0)), (1, .int (nI v))]) F.1 F.2.1 dX0_moveGuest_50 rfl hl (by decide) rfl (fun ls hl => ?_)
    refine lv_iload_n F.1 F.2.1 dX0_moveGuest_51 rfl (lv_at hl 0 rfl) ?_
    refine lv_aload_n F.1 F.2.1 dX0_moveGuest_52 rfl (lv_at hl 2 rfl) ?_
    refine k_get (v := .ref (a 7)) F nX0_moveGuest_X0 hK.1 hP 0 rfl rfl 3 (by decide) (List.mem_of_getElem? (i := 1) rfl) rfl dX0_moveGuest_53 ?_
    refine k_get (v := .ref (a 9)) F nX0_moveGuest_X2 hK.1 hP 7 rfl rfl 2 (by decide) (List.mem_of_getElem? (i := 5) rfl) rfl dX0_moveGuest_56 ?_
    refine lv_iload_n F.1 F.2.1 dX0_moveGuest_59 rfl (lv_at hl 3 rfl) ?_
    refine k_iald (f := S 9) (n := 8) F hK.1 hP 9 0 rfl rfl (by omega) (by decide) dX0_moveGuest_60 ?_
    have := hI.brave v
    refine k_icmp_gt (tgt := 85) F (by omega) (by omega) dX0_moveGuest_61 (by decide) (fun h61 => ?_) (fun h61 => ?_)
    · skip
      refine lv_aload_n F.1 F.2.1 dX0_moveGuest_85 rfl (lv_at hl 2 rfl) ?_
      refine k_get (v := .ref (a 2)) F nX0_moveGuest_X0 hK.1 hP 0 rfl rfl 2 (by decide) (List.mem_of_getElem? (i := 6) rfl) rfl dX0_moveGuest_86 ?_
      refine lv_iload_n F.1 F.2.1 dX0_moveGuest_89 rfl (lv_at hl 1 rfl) ?_
      refine k_pV (n := 1) (rest := []) (v := oI (frcN S (S 7 v) (S 0 1)).1) F (c_X1_fiercestAwake l D cI a S (S 7 v) hI.bd (by first | assumption | omega)) gX0_moveGuest_X1_fiercestAwake rfl (by decide +kernel) ⟨Nat.le_of_ble_eq_true rfl, Nat.le_of_ble_eq_true rfl⟩ rfl hl.1 rfl (Nat.le_of_ble_eq_true rfl) dX0_moveGuest_90 ⟨Nat.zero_le _, Nat.zero_le _⟩ hK hP hS [2, 3, 4, 5, 6] rfl (q0 := 2) (ci := 1) rfl rfl (fun H locs hP hS => ?_)
      refine lv_istore (lv' := [(4, .int (oI (frcN S (S 7 v) (S 0 1)).1)), (3, .int (nI (hisG S (S 7 v) (S 6 v)))), (2, .int (nI (S 7 v))), (0, .ref (a 0)), (1, .int (nI v))]) F.1 F.2.1 dX0_moveGuest_93 hl (by decide) rfl (fun ls hl => ?_)
      obtain ⟨k, hk1, hk2, hk3, hk4⟩ := frc_get hI (t := S 7 v) (r := S 6 v) (by omega)
      have hk5 := hI.mood1 k hk2
      rw [hk1, oI_succ] at hl
      refine lv_aload_n F.1 F.2.1 dX0_moveGuest_95 rfl (lv_at hl 3 rfl) ?_
      refine k_get (v := .ref (a 7)) F nX0_moveGuest_X0 hK.1 hP 0 rfl rfl 3 (by decide) (List.mem_of_getElem? (i := 1) rfl) rfl dX0_moveGuest_96 ?_
      refine k_get (v := .ref (a 10)) F nX0_moveGuest_X2 hK.1 hP 7 rfl rfl 3 (by decide) (List.mem_of_getElem? (i := 7) rfl) rfl dX0_moveGuest_99 ?_
      refine lv_iload_n F.1 F.2.1 dX0_moveGuest_102 rfl (lv_at hl 4 rfl) ?_
      refine k_iald (f := S 8) (n := 8) F hK.1 hP 10 0 rfl rfl (by omega) (by decide) dX0_moveGuest_103 ?_
      have := hI.has v
      refine k_if_le (tgt := 129) F (by omega) dX0_moveGuest_104 (by decide) (fun h104 => ?_) (fun h104 => ?_)
      · skip
        refine lv_aload_n F.1 F.2.1 dX0_moveGuest_129 rfl (lv_at hl 3 rfl) ?_
        refine k_get (v := .ref (a 7)) F nX0_moveGuest_X0 hK.1 hP 0 rfl rfl 3 (by decide) (List.mem_of_getElem? (i := 1) rfl) rfl dX0_moveGuest_130 ?_
        refine lv_iload_n F.1 F.2.1 dX0_moveGuest_133 rfl (lv_at hl 4 rfl) ?_
        refine lv_iload_n F.1 F.2.1 dX0_moveGuest_134 rfl (lv_at hl 1 rfl) ?_
        refine k_pSN (n := 1) (rest := [.int (nI v), .ref (a 7)]) (v := nI (grdN (hisG S (S 7 v) (S 6 v)))) F (c_X3_gradeOfHiss l D cI (hisG S (S 7 v) (S 6 v)) (by first | assumption | omega)) gX0_moveGuest_X3_gradeOfHiss_n117 hK.2 (List.mem_of_getElem? (i := 68) rfl) (List.mem_of_getElem? (i := 67) rfl) rfl (by decide +kernel) ⟨Nat.le_of_ble_eq_true rfl, Nat.le_of_ble_eq_true rfl⟩ rfl hl.1 rfl (Nat.le_of_ble_eq_true rfl) dX0_moveGuest_135 ⟨Nat.zero_le _, Nat.zero_le _⟩ hK hP hS (fun H locs hP hS => ?_)
        refine k_mV (n := 2) (rest := []) F (c_X2_fallBack l D cI a S v (grdN (hisG S (S 7 v) (S 6 v))) (by first | assumption | omega) (by have := hI.went v; omega) (hI.brave v)) gX0_moveGuest_X2_fallBack rfl (by decide +kernel) ⟨Nat.le_of_ble_eq_true rfl, Nat.le_of_ble_eq_true rfl⟩ rfl hl.1 rfl (Nat.le_of_ble_eq_true rfl) dX0_moveGuest_138 ⟨Nat.zero_le _, Nat.zero_le _⟩ hK hP hD hS [7, 8, 9, 10, 11, 12] rfl rfl rfl (wFa cI a (setf (setf (setf S 10 v (grdN (hisG S (S 7 v) (S 6 v)))) 9 v (min 20 (S 9 v + 1))) 7 v (S 7 v - 1))) rfl rfl (q0 := 7) (ci := 2) rfl rfl (fun H locs hP hD hS => ?_)
        refine lv_aload_n F.1 F.2.1 dX0_moveGuest_141 rfl (lv_at hl 3 rfl) ?_
        refine lv_dup F.1 F.2.1 dX0_moveGuest_142 rfl ?_
        refine k_get (v := .int (nI (S 0 5))) F nX0_moveGuest_X0 hK.1 hP 0 rfl rfl 6 (by decide) (List.mem_of_getElem? (i := 8) rfl) rfl dX0_moveGuest_143 ?_
        refine lv_iconst (v := nI 1) F.1 F.2.1 dX0_moveGuest_146 (by decide) ?_
        refine k_iadd F dX0_moveGuest_147 ?_
        refine k_put F nX0_moveGuest_X0 tyX0 tyX0_ok nmX0 hK.1 hP hD hS 0 rfl rfl 6 (by decide) (List.mem_of_getElem? (i := 8) rfl) rfl (by decide +kernel) (Nat.le_of_ble_eq_true rfl) dX0_moveGuest_148 (wFa cI a (setf (setf (setf (setf S 10 v (grdN (hisG S (S 7 v) (S 6 v)))) 9 v (min 20 (S 9 v + 1))) 7 v (S 7 v - 1)) 0 5 (S 0 5 + 1))) rfl (fun H locs hP hD hS => ?_)
        exact k_retMV F hr hlk hP (congrArg (wFa cI a) (by first | exact moveS_r (by omega) | exact moveS_d (by omega) (by omega) | exact moveS_p (by omega) (by omega) (by omega) hk1 | exact moveS_f (by omega) (by omega) (by omega))) hS dX0_moveGuest_151
      · skip
        refine lv_aload_n F.1 F.2.1 dX0_moveGuest_107 rfl (lv_at hl 3 rfl) ?_
        refine k_get (v := .ref (a 2)) F nX0_moveGuest_X0 hK.1 hP 0 rfl rfl 2 (by decide) (List.mem_of_getElem? (i := 6) rfl) rfl dX0_moveGuest_108 ?_
        refine lv_iload F.1 F.2.1 dX0_moveGuest_111 (lv_at hl 0 rfl) ?_
        refine k_pV (n := 1) (rest := []) (v := bI (0 ≤ nI k ∧ nI k < nI (S 0 1))) F (c_X1_hasGoose l D cI a S (nI k)) gX0_moveGuest_X1_hasGoose rfl (by decide +kernel) ⟨Nat.le_of_ble_eq_true rfl, Nat.le_of_ble_eq_true rfl⟩ rfl hl.1 rfl (Nat.le_of_ble_eq_true rfl) dX0_moveGuest_113 ⟨Nat.zero_le _, Nat.zero_le _⟩ hK hP hS [2, 3, 4, 5, 6] rfl (q0 := 2) (ci := 1) rfl rfl (fun H locs hP hS => ?_)
        refine k_ifeq_b (tgt := 129) F dX0_moveGuest_116 (by decide) (fun h116 => ?_) (fun h116 => ?_)
        · skip
          exact absurd ⟨nI_pos' (by omega), nI_lt hk2 (by omega)⟩ h116
        · skip
          refine lv_aload_n F.1 F.2.1 dX0_moveGuest_119 rfl (lv_at hl 3 rfl) ?_
          refine lv_iload_n F.1 F.2.1 dX0_moveGuest_120 rfl (lv_at hl 4 rfl) ?_
          refine lv_iload F.1 F.2.1 dX0_moveGuest_121 (lv_at hl 0 rfl) ?_
          refine k_mV (n := 2) (rest := []) F (c_X0_payGoose l D cI a S v k hI (by first | assumption | omega) (by first | assumption | omega) (by first | assumption | omega) (by first | assumption | omega)) gX0_moveGuest_X0_payGoose rfl (by decide +kernel) ⟨Nat.le_of_ble_eq_true rfl, Nat.le_of_ble_eq_true rfl⟩ rfl hl.1 rfl (Nat.le_of_ble_eq_true rfl) dX0_moveGuest_123 ⟨Nat.zero_le _, Nat.zero_le _⟩ hK hP hD hS [0, 1, 2, 3, 4, 5, 6, 7, 8, 9, 10, 11, 12] rfl rfl rfl (wFa cI a (payS S v k)) rfl rfl (q0 := 0) (ci := 0) rfl rfl (fun H locs hP hD hS => ?_)
          refine lv_goto (tgt := 151) F.1 F.2.1 dX0_moveGuest_126 (by decide) ?_
          exact k_retMV F hr hlk hP (congrArg (wFa cI a) (by first | exact moveS_r (by omega) | exact moveS_d (by omega) (by omega) | exact moveS_p (by omega) (by omega) (by omega) hk1 | exact moveS_f (by omega) (by omega) (by omega))) hS dX0_moveGuest_151
    · skip
      refine lv_aload_n F.1 F.2.1 dX0_moveGuest_64 rfl (lv_at hl 2 rfl) ?_
      refine k_get (v := .ref (a 7)) F nX0_moveGuest_X0 hK.1 hP 0 rfl rfl 3 (by decide) (List.mem_of_getElem? (i := 1) rfl) rfl dX0_moveGuest_65 ?_
      refine k_get (v := .ref (a 11)) F nX0_moveGuest_X2 hK.1 hP 7 rfl rfl 4 (by decide) (List.mem_of_getElem? (i := 3) rfl) rfl dX0_moveGuest_68 ?_
      refine lv_iload_n F.1 F.2.1 dX0_moveGuest_71 rfl (lv_at hl 3 rfl) ?_
      refine lv_iload_n F.1 F.2.1 dX0_moveGuest_72 rfl (lv_at hl 1 rfl) ?_
      refine lv_iconst (v := nI 1) F.1 F.2.1 dX0_moveGuest_73 (by decide) ?_
      refine k_iadd F dX0_moveGuest_74 ?_
      refine k_iast (f := S 7) (n := 8) (k := v) (x := (S 7 v + 1)) F hK.1 hP hD hS 11 0 rfl rfl (by omega) (by decide) dX0_moveGuest_75 (wFa cI a (setf S 7 v (S 7 v + 1))) rfl (fun H locs hP hD hS => ?_)
      refine lv_aload_n F.1 F.2.1 dX0_moveGuest_76 rfl (lv_at hl 2 rfl) ?_
      refine k_get (v := .ref (a 2)) F nX0_moveGuest_X0 hK.1 hP 0 rfl rfl 2 (by decide) (List.mem_of_getElem? (i := 6) rfl) rfl dX0_moveGuest_77 ?_
      refine lv_iload_n F.1 F.2.1 dX0_moveGuest_80 rfl (lv_at hl 1 rfl) ?_
      refine k_mV (n := 1) (rest := []) F (c_X1_enrage l D cI a (setf S 7 v (S 7 v + 1)) (S 7 v) hI.bd (by first | assumption | omega)) gX0_moveGuest_X1_enrage rfl (by decide +kernel) ⟨Nat.le_of_ble_eq_true rfl, Nat.le_of_ble_eq_true rfl⟩ rfl hl.1 rfl (Nat.le_of_ble_eq_true rfl) dX0_moveGuest_81 ⟨Nat.zero_le _, Nat.zero_le _⟩ hK hP hD hS [2, 3, 4, 5, 6] rfl rfl rfl (wFa cI a (setF (setf S 7 v (S 7 v + 1)) 3 (enrN (setf S 7 v (S 7 v + 1)) (S 7 v) (S 0 1)))) rfl rfl (q0 := 2) (ci := 1) rfl rfl (fun H locs hP hD hS => ?_)
      exact k_retMV F hr hlk hP (congrArg (wFa cI a) (by first | exact moveS_r (by omega) | exact moveS_d (by omega) (by omega) | exact moveS_p (by omega) (by omega) (by omega) hk1 | exact moveS_f (by omega) (by omega) (by omega))) hS dX0_moveGuest_84
  · skip
    refine lv_aload_n F.1 F.2.1 dX0_moveGuest_12 rfl (lv_at hl 0 rfl) ?_
    refine k_get (v := .ref (a 7)) F nX0_moveGuest_X0 hK.1 hP 0 rfl rfl 3 (by decide) (List.mem_of_getElem? (i := 1) rfl) rfl dX0_moveGuest_13 ?_
    refine k_get (v := .ref (a 12)) F nX0_moveGuest_X2 hK.1 hP 7 rfl rfl 5 (by decide) (List.mem_of_getElem? (i := 2) rfl) rfl dX0_moveGuest_16 ?_
    refine lv_iload_n F.1 F.2.1 dX0_moveGuest_19 rfl (lv_at hl 1 rfl) ?_
    refine lv_dup2_11 F.1 F.2.1 dX0_moveGuest_20 rfl rfl ?_
    refine k_iald (f := S 10) (n := 8) F hK.1 hP 12 0 rfl rfl (by omega) (by decide) dX0_moveGuest_21 ?_
    have := hI.back v
    refine lv_iconst (v := nI 1) F.1 F.2.1 dX0_moveGuest_22 (by decide) ?_
    refine k_isub F (by omega) dX0_moveGuest_23 ?_
    refine k_iast (f := S 10) (n := 8) (k := v) (x := (S 10 v - 1)) F hK.1 hP hD hS 12 0 rfl rfl (by omega) (by decide) dX0_moveGuest_24 (wFa cI a (setf S 10 v (S 10 v - 1))) rfl (fun H locs hP hD hS => ?_)
    exact k_retMV F hr hlk hP (congrArg (wFa cI a) (by first | exact moveS_r (by omega) | exact moveS_d (by omega) (by omega) | exact moveS_p (by omega) (by omega) (by omega) hk1 | exact moveS_f (by omega) (by omega) (by omega))) hS dX0_moveGuest_25
theorem nX0_runBeat_X0 : ∀ x ∈ wsX00, x ∈ wsX0_runBeat := fun _ h => List.mem_cons_of_mem _ (List.mem_append_left _ (List.mem_append_left _ (List.mem_append_right _ h)))
theorem nX0_runBeat_X2 : ∀ x ∈ wsX20, x ∈ wsX0_runBeat := fun _ h => List.mem_cons_of_mem _ (List.mem_append_left _ (List.mem_append_right _ h))
set_option maxRecDepth 100000 in
set_option maxHeartbeats 4000000 in
theorem c_X0_runBeat (l : Launch) (D : va_G) (cI : ClassId) (a : Nat → Nat) (S : Nat → Nat → Nat) (hI : Inv S) : MV l yX0_runBeat wsX0_runBeat 4 92 D [(cI, .int)] [.ref (a 0)] (wFa cI a S) (wFa cI a (beatS S)) := by
  refine k_bodyM (cc := cX0_runBeat) (maxL := 2) (ret := none) (by decide) rfl (Nat.le_of_ble_eq_true rfl) ?_
  intro p e s m args below meth c H ls F hr hlk hl hP hK hD hS
  have F : CallFix p m c cX0_runBeat 2 s args wsX0_runBeat RX0 := F
  have hl : lv_has ls 2 [(0, .ref (a 0))] := hl
  have hi0 := hI.gates
  have hi1 := hI.geese
  have hi2 := hI.guests
  refine lv_aload_n F.1 F.2.1 dX0_runBeat_0 rfl (lv_at hl 0 rfl) ?_
  refine k_get (v := .ref (a 2)) F nX0_runBeat_X0 hK.1 hP 0 rfl rfl 2 (by decide) (List.mem_of_getElem? (i := 1) rfl) rfl dX0_runBeat_1 ?_
  refine k_mV (n := 0) (rest := []) F (c_X1_wakeByABeat l D cI a S hI.bd) gX0_runBeat_X1_wakeByABeat rfl (by decide +kernel) ⟨Nat.le_of_ble_eq_true rfl, Nat.le_of_ble_eq_true rfl⟩ rfl hl.1 rfl (Nat.le_of_ble_eq_true rfl) dX0_runBeat_4 ⟨Nat.zero_le _, Nat.zero_le _⟩ hK hP hD hS [2, 3, 4, 5, 6] rfl rfl rfl (wFa cI a (setF S 4 (wakN S (S 0 1)))) rfl rfl (q0 := 2) (ci := 1) rfl rfl (fun H locs hP hD hS => ?_)
  refine lv_iconst (v := nI 0) F.1 F.2.1 dX0_runBeat_7 (by decide) ?_
  refine lv_istore_n (lv' := [(1, .int (nI 0)), (0, .ref (a 0))]) F.1 F.2.1 dX0_runBeat_8 rfl hl (by decide) rfl (fun ls hl => ?_)
  have loop9 : ∀ (n : Nat) (i : Nat), i ≤ S 0 2 → S 0 2 + 1 ≤ i + n → ∀ (H : Heap) (locs : List Loc) (ls : Array Slot), va_P D vwCl (wFa cI a (movN (wakS S) i)) H → va_D (va_B (wFa cI a S)) (wFa cI a (movN (wakS S) i)) → va_S (va_B (wFa cI a S)) s.heap H locs → lv_has ls 2 [(0, .ref (a 0)), (1, .int (nI i))] → W p l e (rmN 4 92) s m args below meth c H locs 0 0 (QMV below args s D (wFa cI a S) (wFa cI a (beatS S))) (F0 m 9 ls []) := by
    intro n
    induction n with
    | zero => intro i hi hn; exact absurd hn (by omega)
    | succ n ih9 =>
      intro i hi hn  H locs ls hP hD hS hl
      have hJ := inv_movN (inv_wakS hI) i
      have e2 : movN (wakS S) i 0 2 = S 0 2 := movN_sc (wakS S) 2 (by omega) i
      refine lv_iload_n F.1 F.2.1 dX0_runBeat_9 rfl (lv_at hl 1 rfl) ?_
      refine lv_aload_n F.1 F.2.1 dX0_runBeat_10 rfl (lv_at hl 0 rfl) ?_
      refine k_get (v := .ref (a 7)) F nX0_runBeat_X0 hK.1 hP 0 rfl rfl 3 (by decide) (List.mem_of_getElem? (i := 2) rfl) rfl dX0_runBeat_11 ?_
      refine k_get (v := .int (nI ((movN (wakS S) i) 0 2))) F nX0_runBeat_X2 hK.1 hP 7 rfl rfl 0 (by decide) (List.mem_of_getElem? (i := 3) rfl) rfl dX0_runBeat_14 ?_
      refine k_icmp_ge (tgt := 39) F (by omega) (by omega) dX0_runBeat_17 (by decide) (fun h17 => ?_) (fun h17 => ?_)
      · skip
        refine lv_aload_n F.1 F.2.1 dX0_runBeat_39 rfl (lv_at hl 0 rfl) ?_
        refine lv_dup F.1 F.2.1 dX0_runBeat_40 rfl ?_
        refine k_get (v := .int (nI ((movN (wakS S) i) 0 3))) F nX0_runBeat_X0 hK.1 hP 0 rfl rfl 4 (by decide) (List.mem_of_getElem? (i := 4) rfl) rfl dX0_runBeat_41 ?_
        refine lv_iconst (v := nI 1) F.1 F.2.1 dX0_runBeat_44 (by decide) ?_
        refine k_iadd F dX0_runBeat_45 ?_
        refine k_put F nX0_runBeat_X0 tyX0 tyX0_ok nmX0 hK.1 hP hD hS 0 rfl rfl 4 (by decide) (List.mem_of_getElem? (i := 4) rfl) rfl (by decide +kernel) (Nat.le_of_ble_eq_true rfl) dX0_runBeat_46 (wFa cI a (setf (movN (wakS S) i) 0 3 ((movN (wakS S) i) 0 3 + 1))) rfl (fun H locs hP hD hS => ?_)
        exact k_retMV F hr hlk hP (by rw [show i = S 0 2 by omega]; rfl) hS dX0_runBeat_49
      · skip
        refine lv_aload_n F.1 F.2.1 dX0_runBeat_20 rfl (lv_at hl 0 rfl) ?_
        refine lv_iload_n F.1 F.2.1 dX0_runBeat_21 rfl (lv_at hl 1 rfl) ?_
        refine k_pV (n := 1) (rest := []) (v := bI ((movN (wakS S) i) 0 0 ≤ (movN (wakS S) i) 7 i)) F (c_X0_isBehindAll l D cI a (movN (wakS S) i) i hJ (by first | assumption | omega)) gX0_runBeat_X0_isBehindAll rfl (by decide +kernel) ⟨Nat.le_of_ble_eq_true rfl, Nat.le_of_ble_eq_true rfl⟩ rfl hl.1 rfl (Nat.le_of_ble_eq_true rfl) dX0_runBeat_22 ⟨Nat.zero_le _, Nat.zero_le _⟩ hK hP hS [0, 1, 2, 3, 4, 5, 6, 7, 8, 9, 10, 11, 12] rfl (q0 := 0) (ci := 0) rfl rfl (fun H locs hP hS => ?_)
        refine k_ifne_b (tgt := 33) F dX0_runBeat_25 (by decide) (fun h25 => ?_) (fun h25 => ?_)
        · skip
          refine k_inc (k := 1) (lv' := [(1, .int (nI (i + 1))), (0, .ref (a 0))]) F dX0_runBeat_33 hl rfl (by decide) rfl (fun ls hl => ?_)
          refine lv_goto (tgt := 9) F.1 F.2.1 dX0_runBeat_36 (by decide) ?_
          have ew : (wFa cI a (movN (wakS S) i)) = (wFa cI a (movN (wakS S) (i + 1))) := by first | rfl | exact congrArg (wFa cI a) (movN_y h25) | exact congrArg (wFa cI a) (movN_n h25)
          rw [ew] at hP hD
          exact ih9 (i + 1) (by omega) (by omega)  _ _ _ hP hD hS (lv_sub hl [1, 0] rfl)
        · skip
          refine lv_aload_n F.1 F.2.1 dX0_runBeat_28 rfl (lv_at hl 0 rfl) ?_
          refine lv_iload_n F.1 F.2.1 dX0_runBeat_29 rfl (lv_at hl 1 rfl) ?_
          refine k_mV (n := 1) (rest := []) F (c_X0_moveGuest l D cI a (movN (wakS S) i) i hJ (by first | assumption | omega) (by first | assumption | omega)) gX0_runBeat_X0_moveGuest rfl (by decide +kernel) ⟨Nat.le_of_ble_eq_true rfl, Nat.le_of_ble_eq_true rfl⟩ rfl hl.1 rfl (Nat.le_of_ble_eq_true rfl) dX0_runBeat_30 ⟨Nat.zero_le _, Nat.zero_le _⟩ hK hP hD hS [0, 1, 2, 3, 4, 5, 6, 7, 8, 9, 10, 11, 12] rfl rfl rfl (wFa cI a (moveS (movN (wakS S) i) i)) rfl rfl (q0 := 0) (ci := 0) rfl rfl (fun H locs hP hD hS => ?_)
          refine k_inc (k := 1) (lv' := [(1, .int (nI (i + 1))), (0, .ref (a 0))]) F dX0_runBeat_33 hl rfl (by decide) rfl (fun ls hl => ?_)
          refine lv_goto (tgt := 9) F.1 F.2.1 dX0_runBeat_36 (by decide) ?_
          have ew : (wFa cI a (moveS (movN (wakS S) i) i)) = (wFa cI a (movN (wakS S) (i + 1))) := by first | rfl | exact congrArg (wFa cI a) (movN_y h25) | exact congrArg (wFa cI a) (movN_n h25)
          rw [ew] at hP hD
          exact ih9 (i + 1) (by omega) (by omega)  _ _ _ hP hD hS (lv_sub hl [1, 0] rfl)
  have ew : (wFa cI a (setF S 4 (wakN S (S 0 1)))) = (wFa cI a (movN (wakS S) 0)) := by first | rfl | exact congrArg (wFa cI a) (movN_y h25) | exact congrArg (wFa cI a) (movN_n h25)
  rw [ew] at hP hD
  exact loop9 ((S 0 2) + 1) 0 (by omega) (by omega)  _ _ _ hP hD hS (lv_sub hl [1, 0] rfl)
set_option maxRecDepth 100000 in
set_option maxHeartbeats 4000000 in
theorem c_X0_runBeats (l : Launch) (D : va_G) (cI : ClassId) (a : Nat → Nat) (S : Nat → Nat → Nat) (b : Nat) (hI : Inv S) (hb1 : b < 2 ^ 31) : MV l yX0_runBeats wsX0_runBeats 5 113 D [(cI, .int)] [.ref (a 0), .int (nI b)] (wFa cI a S) (wFa cI a (beatsN S b)) := by
  refine k_bodyM (cc := cX0_runBeats) (maxL := 3) (ret := none) (by decide) rfl (Nat.le_of_ble_eq_true rfl) ?_
  intro p e s m args below meth c H ls F hr hlk hl hP hK hD hS
  have F : CallFix p m c cX0_runBeats 3 s args wsX0_runBeats RX0 := F
  have hl : lv_has ls 3 [(0, .ref (a 0)), (1, .int (nI b))] := hl
  refine lv_iconst (v := nI 0) F.1 F.2.1 dX0_runBeats_0 (by decide) ?_
  refine lv_istore_n (lv' := [(2, .int (nI 0)), (0, .ref (a 0)), (1, .int (nI b))]) F.1 F.2.1 dX0_runBeats_1 rfl hl (by decide) rfl (fun ls hl => ?_)
  have loop2 : ∀ (n : Nat) (i : Nat), i ≤ b → b + 1 ≤ i + n → ∀ (H : Heap) (locs : List Loc) (ls : Array Slot), va_P D vwCl (wFa cI a (beatsN S i)) H → va_D (va_B (wFa cI a S)) (wFa cI a (beatsN S i)) → va_S (va_B (wFa cI a S)) s.heap H locs → lv_has ls 3 [(0, .ref (a 0)), (1, .int (nI b)), (2, .int (nI i))] → W p l e (rmN 5 113) s m args below meth c H locs 0 0 (QMV below args s D (wFa cI a S) (wFa cI a (beatsN S b))) (F0 m 2 ls []) := by
    intro n
    induction n with
    | zero => intro i hi hn; exact absurd hn (by omega)
    | succ n ih2 =>
      intro i hi hn  H locs ls hP hD hS hl
      refine lv_iload_n F.1 F.2.1 dX0_runBeats_2 rfl (lv_at hl 2 rfl) ?_
      refine lv_iload_n F.1 F.2.1 dX0_runBeats_3 rfl (lv_at hl 1 rfl) ?_
      refine k_icmp_ge (tgt := 17) F (by omega) (by omega) dX0_runBeats_4 (by decide) (fun h4 => ?_) (fun h4 => ?_)
      · skip
        exact k_retMV F hr hlk hP (by rw [show i = b by omega]) hS dX0_runBeats_17
      · skip
        refine lv_aload_n F.1 F.2.1 dX0_runBeats_7 rfl (lv_at hl 0 rfl) ?_
        refine k_mV (n := 0) (rest := []) F (c_X0_runBeat l D cI a (beatsN S i) (inv_beatsN hI i)) gX0_runBeats_X0_runBeat rfl (by decide +kernel) ⟨Nat.le_of_ble_eq_true rfl, Nat.le_of_ble_eq_true rfl⟩ rfl hl.1 rfl (Nat.le_of_ble_eq_true rfl) dX0_runBeats_8 ⟨Nat.zero_le _, Nat.zero_le _⟩ hK hP hD hS [0, 1, 2, 3, 4, 5, 6, 7, 8, 9, 10, 11, 12] rfl rfl rfl (wFa cI a (beatS (beatsN S i))) rfl rfl (q0 := 0) (ci := 0) rfl rfl (fun H locs hP hD hS => ?_)
        refine k_inc (k := 2) (lv' := [(2, .int (nI (i + 1))), (0, .ref (a 0)), (1, .int (nI b))]) F dX0_runBeats_11 hl rfl (by decide) rfl (fun ls hl => ?_)
        refine lv_goto (tgt := 2) F.1 F.2.1 dX0_runBeats_14 (by decide) ?_
        have ew : (wFa cI a (beatS (beatsN S i))) = (wFa cI a (beatsN S (i + 1))) := rfl
        rw [ew] at hP hD
        exact ih2 (i + 1) (by omega) (by omega)  _ _ _ hP hD hS (lv_sub hl [1, 2, 0] rfl)
  have ew : (wFa cI a S) = (wFa cI a (beatsN S 0)) := rfl
  rw [ew] at hP hD
  exact loop2 (b + 1) 0 (by omega) (by omega)  _ _ _ hP hD hS (lv_sub hl [1, 2, 0] rfl)
set_option maxRecDepth 100000 in
set_option maxHeartbeats 4000000 in
theorem c_X0_beatsToFarm (l : Launch) (D : va_G) (cI : ClassId) (a : Nat → Nat) (S : Nat → Nat → Nat) (v : Nat) (q : Nat) (hI : Inv S) (hv : v < 8) (hq : q < 2 ^ 31) : MI l yX0_beatsToFarm wsX0_beatsToFarm 5 113 D [(cI, .int)] [.ref (a 0), .int (nI v), .int (nI q)] (wFa cI a S) (wFa cI a (beatsN S (waitN S v q))) (arrI S v q) := by
  refine k_bodyM (cc := cX0_beatsToFarm) (maxL := 4) (ret := (some .int)) (by decide) rfl (Nat.le_of_ble_eq_true rfl) ?_
  intro p e s m args below meth c H ls F hr hlk hl hP hK hD hS
  have F : CallFix p m c cX0_beatsToFarm 4 s args wsX0_beatsToFarm RX0 := F
  have hl : lv_has ls 4 [(0, .ref (a 0)), (1, .int (nI v)), (2, .int (nI q))] := hl
  refine lv_iconst (v := nI 0) F.1 F.2.1 dX0_beatsToFarm_0 (by decide) ?_
  refine lv_istore_n (lv' := [(3, .int (nI 0)), (0, .ref (a 0)), (1, .int (nI v)), (2, .int (nI q))]) F.1 F.2.1 dX0_beatsToFarm_1 rfl hl (by decide) rfl (fun ls hl => ?_)
  have loop2 : ∀ (n : Nat) (i : Nat), i ≤ q → q + 1 ≤ i + n → (∀ j, j < i → ¬ beatsN S j 0 0 ≤ beatsN S j 7 v) → ∀ (H : Heap) (locs : List Loc) (ls : Array Slot), va_P D vwCl (wFa cI a (beatsN S i)) H → va_D (va_B (wFa cI a S)) (wFa cI a (beatsN S i)) → va_S (va_B (wFa cI a S)) s.heap H locs → lv_has ls 4 [(0, .ref (a 0)), (1, .int (nI v)), (2, .int (nI q)), (3, .int (nI i))] → W p l e (rmN 5 113) s m args below meth c H locs 0 0 (QMI below args s D (wFa cI a S) (wFa cI a (beatsN S (waitN S v q))) (arrI S v q)) (F0 m 2 ls []) := by
    intro n
    induction n with
    | zero => intro i hi hn; exact absurd hn (by omega)
    | succ n ih2 =>
      intro i hi hn hw H locs ls hP hD hS hl
      refine lv_iload_n F.1 F.2.1 dX0_beatsToFarm_2 rfl (lv_at hl 3 rfl) ?_
      refine lv_iload_n F.1 F.2.1 dX0_beatsToFarm_3 rfl (lv_at hl 2 rfl) ?_
      refine k_icmp_ge (tgt := 25) F (by omega) (by omega) dX0_beatsToFarm_4 (by decide) (fun h4 => ?_) (fun h4 => ?_)
      · skip
        refine lv_aload_n F.1 F.2.1 dX0_beatsToFarm_25 rfl (lv_at hl 0 rfl) ?_
        refine lv_iload_n F.1 F.2.1 dX0_beatsToFarm_26 rfl (lv_at hl 1 rfl) ?_
        refine k_pV (n := 1) (rest := []) (v := bI ((beatsN S i) 0 0 ≤ (beatsN S i) 7 v)) F (c_X0_isBehindAll l D cI a (beatsN S i) v (inv_beatsN hI i) (by first | assumption | omega)) gX0_beatsToFarm_X0_isBehindAll rfl (by decide +kernel) ⟨Nat.le_of_ble_eq_true rfl, Nat.le_of_ble_eq_true rfl⟩ rfl hl.1 rfl (Nat.le_of_ble_eq_true rfl) dX0_beatsToFarm_27 ⟨Nat.zero_le _, Nat.zero_le _⟩ hK hP hS [0, 1, 2, 3, 4, 5, 6, 7, 8, 9, 10, 11, 12] rfl (q0 := 0) (ci := 0) rfl rfl (fun H locs hP hS => ?_)
        refine k_ifeq_b (tgt := 37) F dX0_beatsToFarm_30 (by decide) (fun h30 => ?_) (fun h30 => ?_)
        · skip
          refine lv_iconst (v := (-1)) F.1 F.2.1 dX0_beatsToFarm_37 (by decide) ?_
          exact k_retMI F hr hlk hP (by rw [wait_eq2 hw hi (by first | exact Or.inr h12 | exact Or.inl h4)]) hS (by unfold arrI; rw [(wait_eq2 hw hi (by first | exact Or.inr h12 | exact Or.inl h4)), if_neg h30]) rfl dX0_beatsToFarm_38
        · skip
          refine lv_iload_n F.1 F.2.1 dX0_beatsToFarm_33 rfl (lv_at hl 3 rfl) ?_
          refine lv_goto (tgt := 38) F.1 F.2.1 dX0_beatsToFarm_34 (by decide) ?_
          exact k_retMI F hr hlk hP (by rw [wait_eq2 hw hi (by first | exact Or.inr h12 | exact Or.inl h4)]) hS (by unfold arrI; rw [(wait_eq2 hw hi (by first | exact Or.inr h12 | exact Or.inl h4)), if_pos h30]) rfl dX0_beatsToFarm_38
      · skip
        refine lv_aload_n F.1 F.2.1 dX0_beatsToFarm_7 rfl (lv_at hl 0 rfl) ?_
        refine lv_iload_n F.1 F.2.1 dX0_beatsToFarm_8 rfl (lv_at hl 1 rfl) ?_
        refine k_pV (n := 1) (rest := []) (v := bI ((beatsN S i) 0 0 ≤ (beatsN S i) 7 v)) F (c_X0_isBehindAll l D cI a (beatsN S i) v (inv_beatsN hI i) (by first | assumption | omega)) gX0_beatsToFarm_X0_isBehindAll rfl (by decide +kernel) ⟨Nat.le_of_ble_eq_true rfl, Nat.le_of_ble_eq_true rfl⟩ rfl hl.1 rfl (Nat.le_of_ble_eq_true rfl) dX0_beatsToFarm_9 ⟨Nat.zero_le _, Nat.zero_le _⟩ hK hP hS [0, 1, 2, 3, 4, 5, 6, 7, 8, 9, 10, 11, 12] rfl (q0 := 0) (ci := 0) rfl rfl (fun H locs hP hS => ?_)
        refine k_ifne_b (tgt := 25) F dX0_beatsToFarm_12 (by decide) (fun h12 => ?_) (fun h12 => ?_)
        · skip
          refine lv_aload_n F.1 F.2.1 dX0_beatsToFarm_25 rfl (lv_at hl 0 rfl) ?_
          refine lv_iload_n F.1 F.2.1 dX0_beatsToFarm_26 rfl (lv_at hl 1 rfl) ?_
          refine k_pV (n := 1) (rest := []) (v := bI ((beatsN S i) 0 0 ≤ (beatsN S i) 7 v)) F (c_X0_isBehindAll l D cI a (beatsN S i) v (inv_beatsN hI i) (by first | assumption | omega)) gX0_beatsToFarm_X0_isBehindAll rfl (by decide +kernel) ⟨Nat.le_of_ble_eq_true rfl, Nat.le_of_ble_eq_true rfl⟩ rfl hl.1 rfl (Nat.le_of_ble_eq_true rfl) dX0_beatsToFarm_27 ⟨Nat.zero_le _, Nat.zero_le _⟩ hK hP hS [0, 1, 2, 3, 4, 5, 6, 7, 8, 9, 10, 11, 12] rfl (q0 := 0) (ci := 0) rfl rfl (fun H locs hP hS => ?_)
          refine k_ifeq_b (tgt := 37) F dX0_beatsToFarm_30 (by decide) (fun h30 => ?_) (fun h30 => ?_)
          · skip
            refine lv_iconst (v := (-1)) F.1 F.2.1 dX0_beatsToFarm_37 (by decide) ?_
            exact k_retMI F hr hlk hP (by rw [wait_eq2 hw hi (by first | exact Or.inr h12 | exact Or.inl h4)]) hS (by unfold arrI; rw [(wait_eq2 hw hi (by first | exact Or.inr h12 | exact Or.inl h4)), if_neg h30]) rfl dX0_beatsToFarm_38
          · skip
            refine lv_iload_n F.1 F.2.1 dX0_beatsToFarm_33 rfl (lv_at hl 3 rfl) ?_
            refine lv_goto (tgt := 38) F.1 F.2.1 dX0_beatsToFarm_34 (by decide) ?_
            exact k_retMI F hr hlk hP (by rw [wait_eq2 hw hi (by first | exact Or.inr h12 | exact Or.inl h4)]) hS (by unfold arrI; rw [(wait_eq2 hw hi (by first | exact Or.inr h12 | exact Or.inl h4)), if_pos h30]) rfl dX0_beatsToFarm_38
        · skip
          refine lv_aload_n F.1 F.2.1 dX0_beatsToFarm_15 rfl (lv_at hl 0 rfl) ?_
          refine k_mV (n := 0) (rest := []) F (c_X0_runBeat l D cI a (beatsN S i) (inv_beatsN hI i)) gX0_beatsToFarm_X0_runBeat rfl (by decide +kernel) ⟨Nat.le_of_ble_eq_true rfl, Nat.le_of_ble_eq_true rfl⟩ rfl hl.1 rfl (Nat.le_of_ble_eq_true rfl) dX0_beatsToFarm_16 ⟨Nat.zero_le _, Nat.zero_le _⟩ hK hP hD hS [0, 1, 2, 3, 4, 5, 6, 7, 8, 9, 10, 11, 12] rfl rfl rfl (wFa cI a (beatS (beatsN S i))) rfl rfl (q0 := 0) (ci := 0) rfl rfl (fun H locs hP hD hS => ?_)
          refine k_inc (k := 3) (lv' := [(3, .int (nI (i + 1))), (0, .ref (a 0)), (1, .int (nI v)), (2, .int (nI q))]) F dX0_beatsToFarm_19 hl rfl (by decide) rfl (fun ls hl => ?_)
          refine lv_goto (tgt := 2) F.1 F.2.1 dX0_beatsToFarm_22 (by decide) ?_
          have ew : (wFa cI a (beatS (beatsN S i))) = (wFa cI a (beatsN S (i + 1))) := rfl
          rw [ew] at hP hD
          exact ih2 (i + 1) (by omega) (by omega) (fun j h => if e : j = i then e ▸ h12 else hw j (by omega)) _ _ _ hP hD hS (lv_sub hl [1, 2, 3, 0] rfl)
  have ew : (wFa cI a S) = (wFa cI a (beatsN S 0)) := rfl
  rw [ew] at hP hD
  exact loop2 (q + 1) 0 (by omega) (by omega) (fun j h => absurd h (by omega)) _ _ _ hP hD hS (lv_sub hl [1, 2, 3, 0] rfl)
theorem nX0_copyFrom_X0 : ∀ x ∈ wsX00, x ∈ wsX0_copyFrom := fun _ h => List.mem_cons_of_mem _ (List.mem_append_left _ (List.mem_append_left _ (List.mem_append_right _ h)))
set_option maxRecDepth 100000 in
set_option maxHeartbeats 4000000 in
theorem c_X0_copyFrom (l : Launch) (D : va_G) (cI : ClassId) (a b : Nat → Nat) (S S2 : Nat → Nat → Nat) : MV l yX0_copyFrom wsX0_copyFrom 2 39 D [(cI, .int)] [.ref (b 0), .ref (a 0)] (wFF cI a b S S2) (wFF cI a b S S) := by
  refine k_bodyM (cc := cX0_copyFrom) (maxL := 2) (ret := none) (by decide) rfl (Nat.le_of_ble_eq_true rfl) ?_
  intro p e s m args below meth c H ls F hr hlk hl hP hK hD hS
  have F : CallFix p m c cX0_copyFrom 2 s args wsX0_copyFrom RX0 := F
  have hl : lv_has ls 2 [(0, .ref (b 0)), (1, .ref (a 0))] := hl
  refine lv_aload_n F.1 F.2.1 dX0_copyFrom_0 rfl (lv_at hl 0 rfl) ?_
  refine lv_aload_n F.1 F.2.1 dX0_copyFrom_1 rfl (lv_at hl 1 rfl) ?_
  refine k_get (v := .int (nI (S 0 0))) F nX0_copyFrom_X0 hK.1 hP 13 rfl rfl 0 (by decide) (List.mem_of_getElem? (i := 1) rfl) rfl dX0_copyFrom_2 ?_
  refine k_put F nX0_copyFrom_X0 tyX0 tyX0_ok nmX0 hK.1 hP hD hS 0 rfl rfl 0 (by decide) (List.mem_of_getElem? (i := 1) rfl) rfl (by decide +kernel) (Nat.le_of_ble_eq_true rfl) dX0_copyFrom_5 (wFF cI a b S (setf S2 0 0 (S 0 0))) rfl (fun H locs hP hD hS => ?_)
  refine lv_aload_n F.1 F.2.1 dX0_copyFrom_8 rfl (lv_at hl 1 rfl) ?_
  refine k_get (v := .ref (a 1)) F nX0_copyFrom_X0 hK.1 hP 13 rfl rfl 1 (by decide) (List.mem_of_getElem? (i := 2) rfl) rfl dX0_copyFrom_9 ?_
  refine lv_iconst (v := nI 0) F.1 F.2.1 dX0_copyFrom_12 (by decide) ?_
  refine lv_aload_n F.1 F.2.1 dX0_copyFrom_13 rfl (lv_at hl 0 rfl) ?_
  refine k_get (v := .ref (b 1)) F nX0_copyFrom_X0 hK.1 hP 0 rfl rfl 1 (by decide) (List.mem_of_getElem? (i := 2) rfl) rfl dX0_copyFrom_14 ?_
  refine lv_iconst (v := nI 0) F.1 F.2.1 dX0_copyFrom_17 (by decide) ?_
  refine lv_bipush (v := nI 6) F.1 F.2.1 dX0_copyFrom_18 (by decide) ?_
  refine k_copy (n := 6) F hl.1 (List.mem_of_getElem? (i := 3) rfl) (List.mem_of_getElem? (i := 4) rfl) (List.mem_of_getElem? (i := 5) rfl) (List.mem_of_getElem? (i := 6) rfl) hK.1 hP hD hS 14 1 0 rfl rfl rfl (by decide) (Nat.le_of_ble_eq_true rfl) (Nat.le_of_ble_eq_true rfl) dX0_copyFrom_20 (wFF cI a b S (setF (setf S2 0 0 (S 0 0)) 1 (S 1))) rfl (fun H locs hP hD hS => ?_)
  refine lv_aload_n F.1 F.2.1 dX0_copyFrom_23 rfl (lv_at hl 0 rfl) ?_
  refine k_get (v := .ref (b 2)) F nX0_copyFrom_X0 hK.1 hP 0 rfl rfl 2 (by decide) (List.mem_of_getElem? (i := 7) rfl) rfl dX0_copyFrom_24 ?_
  refine lv_aload_n F.1 F.2.1 dX0_copyFrom_27 rfl (lv_at hl 1 rfl) ?_
  refine k_get (v := .ref (a 2)) F nX0_copyFrom_X0 hK.1 hP 13 rfl rfl 2 (by decide) (List.mem_of_getElem? (i := 7) rfl) rfl dX0_copyFrom_28 ?_
  refine k_mV (n := 1) (rest := []) F (c_X1_copyFrom l D cI a b S (setF (setf S2 0 0 (S 0 0)) 1 (S 1))) gX0_copyFrom_X1_copyFrom rfl (by decide +kernel) ⟨Nat.le_of_ble_eq_true rfl, Nat.le_of_ble_eq_true rfl⟩ rfl hl.1 rfl (Nat.le_of_ble_eq_true rfl) dX0_copyFrom_31 ⟨Nat.zero_le _, Nat.zero_le _⟩ hK hP hD hS [2, 3, 4, 5, 6, 15, 16, 17, 18, 19] rfl rfl rfl (wFF cI a b S (setF (setF (setF (setF (setf (setF (setf S2 0 0 (S 0 0)) 1 (S 1)) 0 1 (S 0 1)) 2 (S 2)) 3 (S 3)) 4 (S 4)) 5 (S 5))) rfl rfl (q0 := 2) (ci := 1) rfl rfl (fun H locs hP hD hS => ?_)
  refine lv_aload_n F.1 F.2.1 dX0_copyFrom_34 rfl (lv_at hl 0 rfl) ?_
  refine k_get (v := .ref (b 7)) F nX0_copyFrom_X0 hK.1 hP 0 rfl rfl 3 (by decide) (List.mem_of_getElem? (i := 8) rfl) rfl dX0_copyFrom_35 ?_
  refine lv_aload_n F.1 F.2.1 dX0_copyFrom_38 rfl (lv_at hl 1 rfl) ?_
  refine k_get (v := .ref (a 7)) F nX0_copyFrom_X0 hK.1 hP 13 rfl rfl 3 (by decide) (List.mem_of_getElem? (i := 8) rfl) rfl dX0_copyFrom_39 ?_
  refine k_mV (n := 1) (rest := []) F (c_X2_copyFrom l D cI a b S (setF (setF (setF (setF (setf (setF (setf S2 0 0 (S 0 0)) 1 (S 1)) 0 1 (S 0 1)) 2 (S 2)) 3 (S 3)) 4 (S 4)) 5 (S 5))) gX0_copyFrom_X2_copyFrom rfl (by decide +kernel) ⟨Nat.le_of_ble_eq_true rfl, Nat.le_of_ble_eq_true rfl⟩ rfl hl.1 rfl (Nat.le_of_ble_eq_true rfl) dX0_copyFrom_42 ⟨Nat.zero_le _, Nat.zero_le _⟩ hK hP hD hS [7, 8, 9, 10, 11, 12, 20, 21, 22, 23, 24, 25] rfl rfl rfl (wFF cI a b S (setF (setF (setF (setF (setF (setf (setF (setF (setF (setF (setf (setF (setf S2 0 0 (S 0 0)) 1 (S 1)) 0 1 (S 0 1)) 2 (S 2)) 3 (S 3)) 4 (S 4)) 5 (S 5)) 0 2 (S 0 2)) 6 (S 6)) 9 (S 9)) 8 (S 8)) 7 (S 7)) 10 (S 10))) rfl rfl (q0 := 7) (ci := 2) rfl rfl (fun H locs hP hD hS => ?_)
  refine lv_aload_n F.1 F.2.1 dX0_copyFrom_45 rfl (lv_at hl 0 rfl) ?_
  refine lv_aload_n F.1 F.2.1 dX0_copyFrom_46 rfl (lv_at hl 1 rfl) ?_
  refine k_get (v := .int (nI (S 0 3))) F nX0_copyFrom_X0 hK.1 hP 13 rfl rfl 4 (by decide) (List.mem_of_getElem? (i := 9) rfl) rfl dX0_copyFrom_47 ?_
  refine k_put F nX0_copyFrom_X0 tyX0 tyX0_ok nmX0 hK.1 hP hD hS 0 rfl rfl 4 (by decide) (List.mem_of_getElem? (i := 9) rfl) rfl (by decide +kernel) (Nat.le_of_ble_eq_true rfl) dX0_copyFrom_50 (wFF cI a b S (setf (setF (setF (setF (setF (setF (setf (setF (setF (setF (setF (setf (setF (setf S2 0 0 (S 0 0)) 1 (S 1)) 0 1 (S 0 1)) 2 (S 2)) 3 (S 3)) 4 (S 4)) 5 (S 5)) 0 2 (S 0 2)) 6 (S 6)) 9 (S 9)) 8 (S 8)) 7 (S 7)) 10 (S 10)) 0 3 (S 0 3))) rfl (fun H locs hP hD hS => ?_)
  refine lv_aload_n F.1 F.2.1 dX0_copyFrom_53 rfl (lv_at hl 0 rfl) ?_
  refine lv_aload_n F.1 F.2.1 dX0_copyFrom_54 rfl (lv_at hl 1 rfl) ?_
  refine k_get (v := .int (nI (S 0 4))) F nX0_copyFrom_X0 hK.1 hP 13 rfl rfl 5 (by decide) (List.mem_of_getElem? (i := 10) rfl) rfl dX0_copyFrom_55 ?_
  refine k_put F nX0_copyFrom_X0 tyX0 tyX0_ok nmX0 hK.1 hP hD hS 0 rfl rfl 5 (by decide) (List.mem_of_getElem? (i := 10) rfl) rfl (by decide +kernel) (Nat.le_of_ble_eq_true rfl) dX0_copyFrom_58 (wFF cI a b S (setf (setf (setF (setF (setF (setF (setF (setf (setF (setF (setF (setF (setf (setF (setf S2 0 0 (S 0 0)) 1 (S 1)) 0 1 (S 0 1)) 2 (S 2)) 3 (S 3)) 4 (S 4)) 5 (S 5)) 0 2 (S 0 2)) 6 (S 6)) 9 (S 9)) 8 (S 8)) 7 (S 7)) 10 (S 10)) 0 3 (S 0 3)) 0 4 (S 0 4))) rfl (fun H locs hP hD hS => ?_)
  refine lv_aload_n F.1 F.2.1 dX0_copyFrom_61 rfl (lv_at hl 0 rfl) ?_
  refine lv_aload_n F.1 F.2.1 dX0_copyFrom_62 rfl (lv_at hl 1 rfl) ?_
  refine k_get (v := .int (nI (S 0 5))) F nX0_copyFrom_X0 hK.1 hP 13 rfl rfl 6 (by decide) (List.mem_of_getElem? (i := 11) rfl) rfl dX0_copyFrom_63 ?_
  refine k_put F nX0_copyFrom_X0 tyX0 tyX0_ok nmX0 hK.1 hP hD hS 0 rfl rfl 6 (by decide) (List.mem_of_getElem? (i := 11) rfl) rfl (by decide +kernel) (Nat.le_of_ble_eq_true rfl) dX0_copyFrom_66 (wFF cI a b S (setf (setf (setf (setF (setF (setF (setF (setF (setf (setF (setF (setF (setF (setf (setF (setf S2 0 0 (S 0 0)) 1 (S 1)) 0 1 (S 0 1)) 2 (S 2)) 3 (S 3)) 4 (S 4)) 5 (S 5)) 0 2 (S 0 2)) 6 (S 6)) 9 (S 9)) 8 (S 8)) 7 (S 7)) 10 (S 10)) 0 3 (S 0 3)) 0 4 (S 0 4)) 0 5 (S 0 5))) rfl (fun H locs hP hD hS => ?_)
  exact k_retMV F hr hlk hP rfl hS dX0_copyFrom_69
end
section
theorem remN_mono {S : Nat → Nat → Nat} {t x m g n : Nat} (hg : g < n) : remN S t x m (g + 1) n ≤ remN S t x m g n := by
  by_cases c : S 3 g = m ∧ awk S g t
  · have := remN_step (x := x) c.1 c.2 n hg
    omega
  · exact Nat.le_of_eq (remN_same c n)
theorem cal_rem {S : Nat → Nat → Nat} {w t x m : Nat} {p : Nat × Nat} {g n : Nat} (hg : g < n) (h : remN S t x m g n ≤ (calI S w t x m p g).1) : remN S t x m (g + 1) n ≤ (calI S w t x m p (g + 1)).1 := by
  simp only [calI]
  split
  · rename_i q
    have := remN_step (x := x) q.2.1 q.2.2 n hg
    show _ ≤ _ - _
    omega
  · exact Nat.le_trans (remN_mono hg) h
theorem cal_out {S : Nat → Nat → Nat} {w t x h n j : Nat} (hj : j < 9) (hr2 : remN S t x (9 - j) n n ≤ (calI S w t x (9 - j) (calO S w t x h n j) n).1) : remN S t x (9 - (j + 1)) 0 n ≤ (calO S w t x h n (j + 1)).1 := by
  have e8 := remN_low (S := S) (t := t) (x := x) (m := 9 - (j + 1)) (g := n) n (Nat.le_refl _)
  rw [show 9 - (j + 1) + 1 = 9 - j by omega] at e8
  rw [← e8]
  exact hr2
theorem nX0_fewestToCalm_X0 : ∀ x ∈ wsX00, x ∈ wsX0_fewestToCalm := fun _ h => List.mem_cons_of_mem _ (List.mem_append_left _ (List.mem_append_left _ (List.mem_append_right _ h)))
theorem nX0_fewestToCalm_X1 : ∀ x ∈ wsX10, x ∈ wsX0_fewestToCalm := fun _ h => List.mem_cons_of_mem _ (List.mem_append_right _ h)
theorem nX0_fewestToCalm_X2 : ∀ x ∈ wsX20, x ∈ wsX0_fewestToCalm := fun _ h => List.mem_cons_of_mem _ (List.mem_append_left _ (List.mem_append_right _ h))
set_option maxRecDepth 100000 in
set_option maxHeartbeats 4000000 in
theorem c_X0_fewestToCalm (l : Launch) (D : va_G) (cI : ClassId) (a : Nat → Nat) (S : Nat → Nat → Nat) (v : Nat) (hI : Inv S) (hv : v < 8) : PI l yX0_fewestToCalm wsX0_fewestToCalm 4 89 D [(cI, .int)] [.ref (a 0), .int (nI v)] (wFa cI a S) (nI (calmN S v)) := by
  refine k_bodyP (cc := cX0_fewestToCalm) (maxL := 8) (ret := (some .int)) (by decide) rfl (Nat.le_of_ble_eq_true rfl) ?_
  intro p e s m args below meth c H ls F hr hlk hl hP hK hS
  have F : CallFix p m c cX0_fewestToCalm 8 s args wsX0_fewestToCalm RX0 := F
  have hl : lv_has ls 8 [(0, .ref (a 0)), (1, .int (nI v))] := hl
  have hi0 := hI.gates
  have hi1 := hI.geese
  have hi2 := hI.guests
  have hh9 := hisG_le hI (S 7 v) (S 6 v)
  have hw9 := hI.went v
  have ho9 := hI.own v
  have hb9 := hI.brave v
  have hl9 := lackN_le hI (S 7 v) (S 6 v)
  refine lv_aload_n F.1 F.2.1 dX0_fewestToCalm_0 rfl (lv_at hl 0 rfl) ?_
  refine k_get (v := .ref (a 7)) F nX0_fewestToCalm_X0 hK.1 hP 0 rfl rfl 3 (by decide) (List.mem_of_getElem? (i := 1) rfl) rfl dX0_fewestToCalm_1 ?_
  refine k_get (v := .ref (a 11)) F nX0_fewestToCalm_X2 hK.1 hP 7 rfl rfl 4 (by decide) (List.mem_of_getElem? (i := 2) rfl) rfl dX0_fewestToCalm_4 ?_
  refine lv_iload_n F.1 F.2.1 dX0_fewestToCalm_7 rfl (lv_at hl 1 rfl) ?_
  refine k_iald (f := S 7) (n := 8) F hK.1 hP 11 0 rfl rfl (by omega) (by decide) dX0_fewestToCalm_8 ?_
  have := hI.went v
  refine lv_istore_n (lv' := [(2, .int (nI (S 7 v))), (0, .ref (a 0)), (1, .int (nI v))]) F.1 F.2.1 dX0_fewestToCalm_9 rfl hl (by decide) rfl (fun ls hl => ?_)
  refine lv_aload_n F.1 F.2.1 dX0_fewestToCalm_10 rfl (lv_at hl 1 rfl) ?_
  refine lv_iload_n F.1 F.2.1 dX0_fewestToCalm_11 rfl (lv_at hl 0 rfl) ?_
  refine lv_aload_n F.1 F.2.1 dX0_fewestToCalm_12 rfl (lv_at hl 1 rfl) ?_
  refine k_get (v := .ref (a 7)) F nX0_fewestToCalm_X0 hK.1 hP 0 rfl rfl 3 (by decide) (List.mem_of_getElem? (i := 1) rfl) rfl dX0_fewestToCalm_13 ?_
  refine k_get (v := .ref (a 8)) F nX0_fewestToCalm_X2 hK.1 hP 7 rfl rfl 1 (by decide) (List.mem_of_getElem? (i := 3) rfl) rfl dX0_fewestToCalm_16 ?_
  refine lv_iload_n F.1 F.2.1 dX0_fewestToCalm_19 rfl (lv_at hl 2 rfl) ?_
  refine k_iald (f := S 6) (n := 8) F hK.1 hP 8 0 rfl rfl (by omega) (by decide) dX0_fewestToCalm_20 ?_
  have := hI.own v
  refine k_pV (n := 2) (rest := []) (v := nI (lackN S (S 7 v) (S 6 v))) F (c_X0_rankLack l D cI a S (S 7 v) (S 6 v) hI (by first | assumption | omega) (by first | assumption | omega)) gX0_fewestToCalm_X0_rankLack rfl (by decide +kernel) ⟨Nat.le_of_ble_eq_true rfl, Nat.le_of_ble_eq_true rfl⟩ rfl hl.1 rfl (Nat.le_of_ble_eq_true rfl) dX0_fewestToCalm_21 ⟨Nat.zero_le _, Nat.zero_le _⟩ hK hP hS [0, 1, 2, 3, 4, 5, 6, 7, 8, 9, 10, 11, 12] rfl (q0 := 0) (ci := 0) rfl rfl (fun H locs hP hS => ?_)
  refine lv_istore_n (lv' := [(3, .int (nI (lackN S (S 7 v) (S 6 v)))), (2, .int (nI (S 7 v))), (0, .ref (a 0)), (1, .int (nI v))]) F.1 F.2.1 dX0_fewestToCalm_24 rfl hl (by decide) rfl (fun ls hl => ?_)
  refine lv_aload_n F.1 F.2.1 dX0_fewestToCalm_25 rfl (lv_at hl 2 rfl) ?_
  refine lv_iload_n F.1 F.2.1 dX0_fewestToCalm_26 rfl (lv_at hl 3 rfl) ?_
  refine k_pV (n := 1) (rest := []) (v := nI (hisG S (S 7 v) (S 6 v))) F (c_X0_guestHiss l D cI a S v hI (by first | assumption | omega)) gX0_fewestToCalm_X0_guestHiss rfl (by decide +kernel) ⟨Nat.le_of_ble_eq_true rfl, Nat.le_of_ble_eq_true rfl⟩ rfl hl.1 rfl (Nat.le_of_ble_eq_true rfl) dX0_fewestToCalm_27 ⟨Nat.zero_le _, Nat.zero_le _⟩ hK hP hS [0, 1, 2, 3, 4, 5, 6, 7, 8, 9, 10, 11, 12] rfl (q0 := 0) (ci := 0) rfl rfl (fun H locs hP hS => ?_)
  refine lv_istore (lv' := [(4, .int (nI (hisG S (S 7 v) (S 6 v)))), (3, .int (nI (lackN S (S 7 v) (S 6 v)))), (2, .int (nI (S 7 v))), (0, .ref (a 0)), (1, .int (nI v))]) F.1 F.2.1 dX0_fewestToCalm_30 hl (by decide) rfl (fun ls hl => ?_)
  refine lv_iconst (v := nI 0) F.1 F.2.1 dX0_fewestToCalm_32 (by decide) ?_
  refine lv_istore (lv' := [(5, .int (nI 0)), (4, .int (nI (hisG S (S 7 v) (S 6 v)))), (3, .int (nI (lackN S (S 7 v) (S 6 v)))), (2, .int (nI (S 7 v))), (0, .ref (a 0)), (1, .int (nI v))]) F.1 F.2.1 dX0_fewestToCalm_33 hl (by decide) rfl (fun ls hl => ?_)
  refine lv_bipush (v := nI 9) F.1 F.2.1 dX0_fewestToCalm_35 (by decide) ?_
  refine lv_istore (lv' := [(6, .int (nI 9)), (5, .int (nI 0)), (4, .int (nI (hisG S (S 7 v) (S 6 v)))), (3, .int (nI (lackN S (S 7 v) (S 6 v)))), (2, .int (nI (S 7 v))), (0, .ref (a 0)), (1, .int (nI v))]) F.1 F.2.1 dX0_fewestToCalm_37 hl (by decide) rfl (fun ls hl => ?_)
  have loop39 : ∀ (n : Nat) (j : Nat), j ≤ 9 → 9 + 1 ≤ j + n → (remN S (S 7 v) (lackN S (S 7 v) (S 6 v)) (9 - j) 0 (S 0 1) ≤ (calO S (S 9 v) (S 7 v) (lackN S (S 7 v) (S 6 v)) (hisG S (S 7 v) (S 6 v)) (S 0 1) j).1) → ((calO S (S 9 v) (S 7 v) (lackN S (S 7 v) (S 6 v)) (hisG S (S 7 v) (S 6 v)) (S 0 1) j).1 ≤ 144) → ∀ (H : Heap) (locs : List Loc) (ls : Array Slot), va_P D vwCl (wFa cI a S) H → va_S (fun _ => False) s.heap H locs → lv_has ls 8 [(0, .ref (a 0)), (1, .int (nI v)), (2, .int (nI (S 7 v))), (3, .int (nI (lackN S (S 7 v) (S 6 v)))), (4, .int (nI ((calO S (S 9 v) (S 7 v) (lackN S (S 7 v) (S 6 v)) (hisG S (S 7 v) (S 6 v)) (S 0 1) j).1))), (5, .int (nI ((calO S (S 9 v) (S 7 v) (lackN S (S 7 v) (S 6 v)) (hisG S (S 7 v) (S 6 v)) (S 0 1) j).2))), (6, .int (nI (9 - j)))] → W p l e (rmN 4 89) s m args below meth c H locs 0 0 (QPI below args s (nI (calmN S v))) (F0 m 39 ls []) := by
    intro n
    induction n with
    | zero => intro j hi hn; exact absurd hn (by omega)
    | succ n ih39 =>
      intro j hi hn hq1 hu H locs ls hP hS hl
      refine lv_iload F.1 F.2.1 dX0_fewestToCalm_39 (lv_at hl 6 rfl) ?_
      refine lv_iconst (v := nI 1) F.1 F.2.1 dX0_fewestToCalm_41 (by decide) ?_
      refine k_icmp_lt (tgt := 126) F (by omega) (by omega) dX0_fewestToCalm_42 (by decide) (fun h42 => ?_) (fun h42 => ?_)
      · skip
        refine lv_iload F.1 F.2.1 dX0_fewestToCalm_126 (lv_at hl 5 rfl) ?_
        exact k_retP F hr hlk hS (by rw [show j = 9 by omega]; rfl) rfl dX0_fewestToCalm_128
      · skip
        refine lv_iconst (v := nI 0) F.1 F.2.1 dX0_fewestToCalm_45 (by decide) ?_
        refine lv_istore (lv' := [(7, .int (nI 0)), (0, .ref (a 0)), (1, .int (nI v)), (2, .int (nI (S 7 v))), (3, .int (nI (lackN S (S 7 v) (S 6 v)))), (4, .int (nI ((calO S (S 9 v) (S 7 v) (lackN S (S 7 v) (S 6 v)) (hisG S (S 7 v) (S 6 v)) (S 0 1) j).1))), (5, .int (nI ((calO S (S 9 v) (S 7 v) (lackN S (S 7 v) (S 6 v)) (hisG S (S 7 v) (S 6 v)) (S 0 1) j).2))), (6, .int (nI (9 - j)))]) F.1 F.2.1 dX0_fewestToCalm_46 hl (by decide) rfl (fun ls hl => ?_)
        have loop48 : ∀ (n : Nat) (i : Nat), i ≤ S 0 1 → S 0 1 + 1 ≤ i + n → (remN S (S 7 v) (lackN S (S 7 v) (S 6 v)) (9 - j) i (S 0 1) ≤ (calI S (S 9 v) (S 7 v) (lackN S (S 7 v) (S 6 v)) (9 - j) (calO S (S 9 v) (S 7 v) (lackN S (S 7 v) (S 6 v)) (hisG S (S 7 v) (S 6 v)) (S 0 1) j) i).1) → ∀ (H : Heap) (locs : List Loc) (ls : Array Slot), va_P D vwCl (wFa cI a S) H → va_S (fun _ => False) s.heap H locs → lv_has ls 8 [(0, .ref (a 0)), (1, .int (nI v)), (2, .int (nI (S 7 v))), (3, .int (nI (lackN S (S 7 v) (S 6 v)))), (4, .int (nI ((calI S (S 9 v) (S 7 v) (lackN S (S 7 v) (S 6 v)) (9 - j) (calO S (S 9 v) (S 7 v) (lackN S (S 7 v) (S 6 v)) (hisG S (S 7 v) (S 6 v)) (S 0 1) j) i).1))), (5, .int (nI ((calI S (S 9 v) (S 7 v) (lackN S (S 7 v) (S 6 v)) (9 - j) (calO S (S 9 v) (S 7 v) (lackN S (S 7 v) (S 6 v)) (hisG S (S 7 v) (S 6 v)) (S 0 1) j) i).2))), (6, .int (nI (9 - j))), (7, .int (nI i))] → W p l e (rmN 4 89) s m args below meth c H locs 0 0 (QPI below args s (nI (calmN S v))) (F0 m 48 ls []) := by
          intro n
          induction n with
          | zero => intro i hi hn; exact absurd hn (by omega)
          | succ n ih48 =>
            intro i hi hn hr2 H locs ls hP hS hl
            have hu2 := (calI_le S (S 9 v) (S 7 v) (lackN S (S 7 v) (S 6 v)) (9 - j) (calO S (S 9 v) (S 7 v) (lackN S (S 7 v) (S 6 v)) (hisG S (S 7 v) (S 6 v)) (S 0 1) j) i).1
            refine lv_iload F.1 F.2.1 dX0_fewestToCalm_48 (lv_at hl 7 rfl) ?_
            refine lv_aload_n F.1 F.2.1 dX0_fewestToCalm_50 rfl (lv_at hl 0 rfl) ?_
            refine k_get (v := .ref (a 2)) F nX0_fewestToCalm_X0 hK.1 hP 0 rfl rfl 2 (by decide) (List.mem_of_getElem? (i := 4) rfl) rfl dX0_fewestToCalm_51 ?_
            refine k_get (v := .int (nI (S 0 1))) F nX0_fewestToCalm_X1 hK.1 hP 2 rfl rfl 0 (by decide) (List.mem_of_getElem? (i := 5) rfl) rfl dX0_fewestToCalm_54 ?_
            refine k_icmp_ge (tgt := 120) F (by omega) (by omega) dX0_fewestToCalm_57 (by decide) (fun h57 => ?_) (fun h57 => ?_)
            · skip
              refine k_dec (k := 6) (lv' := [(6, .int (nI ((9 - j) - 1))), (0, .ref (a 0)), (1, .int (nI v)), (2, .int (nI (S 7 v))), (3, .int (nI (lackN S (S 7 v) (S 6 v)))), (4, .int (nI ((calI S (S 9 v) (S 7 v) (lackN S (S 7 v) (S 6 v)) (9 - j) (calO S (S 9 v) (S 7 v) (lackN S (S 7 v) (S 6 v)) (hisG S (S 7 v) (S 6 v)) (S 0 1) j) i).1))), (5, .int (nI ((calI S (S 9 v) (S 7 v) (lackN S (S 7 v) (S 6 v)) (9 - j) (calO S (S 9 v) (S 7 v) (lackN S (S 7 v) (S 6 v)) (hisG S (S 7 v) (S 6 v)) (S 0 1) j) i).2))), (7, .int (nI i))]) F (by omega) dX0_fewestToCalm_120 hl rfl (by decide) rfl (fun ls hl => ?_)
              refine lv_goto (tgt := 39) F.1 F.2.1 dX0_fewestToCalm_123 (by decide) ?_
              have e_1 : (calI S (S 9 v) (S 7 v) (lackN S (S 7 v) (S 6 v)) (9 - j) (calO S (S 9 v) (S 7 v) (lackN S (S 7 v) (S 6 v)) (hisG S (S 7 v) (S 6 v)) (S 0 1) j) i).1 = (calO S (S 9 v) (S 7 v) (lackN S (S 7 v) (S 6 v)) (hisG S (S 7 v) (S 6 v)) (S 0 1) (j + 1)).1 := by first | rfl | omega | (rw [show i = S 0 1 by omega]; rfl)
              rw [e_1] at hl
              have e_2 : (calI S (S 9 v) (S 7 v) (lackN S (S 7 v) (S 6 v)) (9 - j) (calO S (S 9 v) (S 7 v) (lackN S (S 7 v) (S 6 v)) (hisG S (S 7 v) (S 6 v)) (S 0 1) j) i).2 = (calO S (S 9 v) (S 7 v) (lackN S (S 7 v) (S 6 v)) (hisG S (S 7 v) (S 6 v)) (S 0 1) (j + 1)).2 := by first | rfl | omega | (rw [show i = S 0 1 by omega]; rfl)
              rw [e_2] at hl
              have e_3 : ((9 - j) - 1) = (9 - (j + 1)) := by first | rfl | omega | (rw [show i = S 0 1 by omega]; rfl)
              rw [e_3] at hl
              have e9 : i = S 0 1 := by omega
              rw [e9] at hr2
              exact ih39 (j + 1) (by omega) (by omega) (cal_out (by omega) hr2) (Nat.le_trans (calI_le _ _ _ _ _ _ _).1 hu) _ _ _ hP hS (lv_sub hl [1, 2, 3, 4, 5, 6, 0] rfl)
            · skip
              refine lv_iload F.1 F.2.1 dX0_fewestToCalm_60 (lv_at hl 4 rfl) ?_
              refine lv_aload_n F.1 F.2.1 dX0_fewestToCalm_62 rfl (lv_at hl 0 rfl) ?_
              refine k_get (v := .ref (a 7)) F nX0_fewestToCalm_X0 hK.1 hP 0 rfl rfl 3 (by decide) (List.mem_of_getElem? (i := 1) rfl) rfl dX0_fewestToCalm_63 ?_
              refine k_get (v := .ref (a 9)) F nX0_fewestToCalm_X2 hK.1 hP 7 rfl rfl 2 (by decide) (List.mem_of_getElem? (i := 6) rfl) rfl dX0_fewestToCalm_66 ?_
              refine lv_iload_n F.1 F.2.1 dX0_fewestToCalm_69 rfl (lv_at hl 1 rfl) ?_
              refine k_iald (f := S 9) (n := 8) F hK.1 hP 9 0 rfl rfl (by omega) (by decide) dX0_fewestToCalm_70 ?_
              have := hI.brave v
              refine k_icmp_le (tgt := 114) F (by omega) (by omega) dX0_fewestToCalm_71 (by decide) (fun h71 => ?_) (fun h71 => ?_)
              · skip
                refine k_inc (k := 7) (lv' := [(7, .int (nI (i + 1))), (0, .ref (a 0)), (1, .int (nI v)), (2, .int (nI (S 7 v))), (3, .int (nI (lackN S (S 7 v) (S 6 v)))), (4, .int (nI ((calI S (S 9 v) (S 7 v) (lackN S (S 7 v) (S 6 v)) (9 - j) (calO S (S 9 v) (S 7 v) (lackN S (S 7 v) (S 6 v)) (hisG S (S 7 v) (S 6 v)) (S 0 1) j) i).1))), (5, .int (nI ((calI S (S 9 v) (S 7 v) (lackN S (S 7 v) (S 6 v)) (9 - j) (calO S (S 9 v) (S 7 v) (lackN S (S 7 v) (S 6 v)) (hisG S (S 7 v) (S 6 v)) (S 0 1) j) i).2))), (6, .int (nI (9 - j)))]) F dX0_fewestToCalm_114 hl rfl (by decide) rfl (fun ls hl => ?_)
                refine lv_goto (tgt := 48) F.1 F.2.1 dX0_fewestToCalm_117 (by decide) ?_
                have e_4 : (calI S (S 9 v) (S 7 v) (lackN S (S 7 v) (S 6 v)) (9 - j) (calO S (S 9 v) (S 7 v) (lackN S (S 7 v) (S 6 v)) (hisG S (S 7 v) (S 6 v)) (S 0 1) j) i).1 = (calI S (S 9 v) (S 7 v) (lackN S (S 7 v) (S 6 v)) (9 - j) (calO S (S 9 v) (S 7 v) (lackN S (S 7 v) (S 6 v)) (hisG S (S 7 v) (S 6 v)) (S 0 1) j) (i + 1)).1 := by simp only [calI]; rw [if_neg (fun q => Nat.not_lt.mpr h71 q.1)]
                rw [e_4] at hl
                have e_5 : (calI S (S 9 v) (S 7 v) (lackN S (S 7 v) (S 6 v)) (9 - j) (calO S (S 9 v) (S 7 v) (lackN S (S 7 v) (S 6 v)) (hisG S (S 7 v) (S 6 v)) (S 0 1) j) i).2 = (calI S (S 9 v) (S 7 v) (lackN S (S 7 v) (S 6 v)) (9 - j) (calO S (S 9 v) (S 7 v) (lackN S (S 7 v) (S 6 v)) (hisG S (S 7 v) (S 6 v)) (S 0 1) j) (i + 1)).2 := by simp only [calI]; rw [if_neg (fun q => Nat.not_lt.mpr h71 q.1)]
                rw [e_5] at hl
                exact ih48 (i + 1) (by omega) (by omega) (cal_rem (by omega) hr2) _ _ _ hP hS (lv_sub hl [1, 2, 3, 4, 5, 6, 7, 0] rfl)
              · skip
                refine lv_aload_n F.1 F.2.1 dX0_fewestToCalm_74 rfl (lv_at hl 0 rfl) ?_
                refine k_get (v := .ref (a 2)) F nX0_fewestToCalm_X0 hK.1 hP 0 rfl rfl 2 (by decide) (List.mem_of_getElem? (i := 4) rfl) rfl dX0_fewestToCalm_75 ?_
                refine k_get (v := .ref (a 4)) F nX0_fewestToCalm_X1 hK.1 hP 2 rfl rfl 2 (by decide) (List.mem_of_getElem? (i := 7) rfl) rfl dX0_fewestToCalm_78 ?_
                refine lv_iload F.1 F.2.1 dX0_fewestToCalm_81 (lv_at hl 7 rfl) ?_
                refine k_iald (f := S 3) (n := 8) F hK.1 hP 4 0 rfl rfl (by omega) (by decide) dX0_fewestToCalm_83 ?_
                have := hI.mood i
                refine lv_iload F.1 F.2.1 dX0_fewestToCalm_84 (lv_at hl 6 rfl) ?_
                refine k_icmp_ne (tgt := 114) F (by omega) (by omega) dX0_fewestToCalm_86 (by decide) (fun h86 => ?_) (fun h86 => ?_)
                · skip
                  refine k_inc (k := 7) (lv' := [(7, .int (nI (i + 1))), (0, .ref (a 0)), (1, .int (nI v)), (2, .int (nI (S 7 v))), (3, .int (nI (lackN S (S 7 v) (S 6 v)))), (4, .int (nI ((calI S (S 9 v) (S 7 v) (lackN S (S 7 v) (S 6 v)) (9 - j) (calO S (S 9 v) (S 7 v) (lackN S (S 7 v) (S 6 v)) (hisG S (S 7 v) (S 6 v)) (S 0 1) j) i).1))), (5, .int (nI ((calI S (S 9 v) (S 7 v) (lackN S (S 7 v) (S 6 v)) (9 - j) (calO S (S 9 v) (S 7 v) (lackN S (S 7 v) (S 6 v)) (hisG S (S 7 v) (S 6 v)) (S 0 1) j) i).2))), (6, .int (nI (9 - j)))]) F dX0_fewestToCalm_114 hl rfl (by decide) rfl (fun ls hl => ?_)
                  refine lv_goto (tgt := 48) F.1 F.2.1 dX0_fewestToCalm_117 (by decide) ?_
                  have e_6 : (calI S (S 9 v) (S 7 v) (lackN S (S 7 v) (S 6 v)) (9 - j) (calO S (S 9 v) (S 7 v) (lackN S (S 7 v) (S 6 v)) (hisG S (S 7 v) (S 6 v)) (S 0 1) j) i).1 = (calI S (S 9 v) (S 7 v) (lackN S (S 7 v) (S 6 v)) (9 - j) (calO S (S 9 v) (S 7 v) (lackN S (S 7 v) (S 6 v)) (hisG S (S 7 v) (S 6 v)) (S 0 1) j) (i + 1)).1 := by simp only [calI]; rw [if_neg (fun q => h86 q.2.1)]
                  rw [e_6] at hl
                  have e_7 : (calI S (S 9 v) (S 7 v) (lackN S (S 7 v) (S 6 v)) (9 - j) (calO S (S 9 v) (S 7 v) (lackN S (S 7 v) (S 6 v)) (hisG S (S 7 v) (S 6 v)) (S 0 1) j) i).2 = (calI S (S 9 v) (S 7 v) (lackN S (S 7 v) (S 6 v)) (9 - j) (calO S (S 9 v) (S 7 v) (lackN S (S 7 v) (S 6 v)) (hisG S (S 7 v) (S 6 v)) (S 0 1) j) (i + 1)).2 := by simp only [calI]; rw [if_neg (fun q => h86 q.2.1)]
                  rw [e_7] at hl
                  exact ih48 (i + 1) (by omega) (by omega) (cal_rem (by omega) hr2) _ _ _ hP hS (lv_sub hl [1, 2, 3, 4, 5, 6, 7, 0] rfl)
                · skip
                  refine lv_aload_n F.1 F.2.1 dX0_fewestToCalm_89 rfl (lv_at hl 0 rfl) ?_
                  refine k_get (v := .ref (a 2)) F nX0_fewestToCalm_X0 hK.1 hP 0 rfl rfl 2 (by decide) (List.mem_of_getElem? (i := 4) rfl) rfl dX0_fewestToCalm_90 ?_
                  refine lv_iload F.1 F.2.1 dX0_fewestToCalm_93 (lv_at hl 7 rfl) ?_
                  refine lv_iload_n F.1 F.2.1 dX0_fewestToCalm_95 rfl (lv_at hl 2 rfl) ?_
                  refine k_pV (n := 2) (rest := []) (v := bI (S 2 i = (S 7 v) ∧ S 4 i = 0)) F (c_X1_isAwakeThere l D cI a S i (S 7 v) hI.bd.k (by first | assumption | omega) (by first | assumption | omega)) gX0_fewestToCalm_X1_isAwakeThere rfl (by decide +kernel) ⟨Nat.le_of_ble_eq_true rfl, Nat.le_of_ble_eq_true rfl⟩ rfl hl.1 rfl (Nat.le_of_ble_eq_true rfl) dX0_fewestToCalm_96 ⟨Nat.zero_le _, Nat.zero_le _⟩ hK hP hS [2, 3, 4, 5, 6] rfl (q0 := 2) (ci := 1) rfl rfl (fun H locs hP hS => ?_)
                  refine k_ifeq_b (tgt := 114) F dX0_fewestToCalm_99 (by decide) (fun h99 => ?_) (fun h99 => ?_)
                  · skip
                    refine k_inc (k := 7) (lv' := [(7, .int (nI (i + 1))), (0, .ref (a 0)), (1, .int (nI v)), (2, .int (nI (S 7 v))), (3, .int (nI (lackN S (S 7 v) (S 6 v)))), (4, .int (nI ((calI S (S 9 v) (S 7 v) (lackN S (S 7 v) (S 6 v)) (9 - j) (calO S (S 9 v) (S 7 v) (lackN S (S 7 v) (S 6 v)) (hisG S (S 7 v) (S 6 v)) (S 0 1) j) i).1))), (5, .int (nI ((calI S (S 9 v) (S 7 v) (lackN S (S 7 v) (S 6 v)) (9 - j) (calO S (S 9 v) (S 7 v) (lackN S (S 7 v) (S 6 v)) (hisG S (S 7 v) (S 6 v)) (S 0 1) j) i).2))), (6, .int (nI (9 - j)))]) F dX0_fewestToCalm_114 hl rfl (by decide) rfl (fun ls hl => ?_)
                    refine lv_goto (tgt := 48) F.1 F.2.1 dX0_fewestToCalm_117 (by decide) ?_
                    have e_8 : (calI S (S 9 v) (S 7 v) (lackN S (S 7 v) (S 6 v)) (9 - j) (calO S (S 9 v) (S 7 v) (lackN S (S 7 v) (S 6 v)) (hisG S (S 7 v) (S 6 v)) (S 0 1) j) i).1 = (calI S (S 9 v) (S 7 v) (lackN S (S 7 v) (S 6 v)) (9 - j) (calO S (S 9 v) (S 7 v) (lackN S (S 7 v) (S 6 v)) (hisG S (S 7 v) (S 6 v)) (S 0 1) j) (i + 1)).1 := by simp only [calI]; rw [if_neg (fun q => h99 q.2.2)]
                    rw [e_8] at hl
                    have e_9 : (calI S (S 9 v) (S 7 v) (lackN S (S 7 v) (S 6 v)) (9 - j) (calO S (S 9 v) (S 7 v) (lackN S (S 7 v) (S 6 v)) (hisG S (S 7 v) (S 6 v)) (S 0 1) j) i).2 = (calI S (S 9 v) (S 7 v) (lackN S (S 7 v) (S 6 v)) (9 - j) (calO S (S 9 v) (S 7 v) (lackN S (S 7 v) (S 6 v)) (hisG S (S 7 v) (S 6 v)) (S 0 1) j) (i + 1)).2 := by simp only [calI]; rw [if_neg (fun q => h99 q.2.2)]
                    rw [e_9] at hl
                    exact ih48 (i + 1) (by omega) (by omega) (cal_rem (by omega) hr2) _ _ _ hP hS (lv_sub hl [1, 2, 3, 4, 5, 6, 7, 0] rfl)
                  · skip
                    have hs9 := remN_step (x := (lackN S (S 7 v) (S 6 v))) h86 h99 (S 0 1) (by omega)
                    refine lv_iload F.1 F.2.1 dX0_fewestToCalm_102 (lv_at hl 4 rfl) ?_
                    refine lv_iload F.1 F.2.1 dX0_fewestToCalm_104 (lv_at hl 6 rfl) ?_
                    refine lv_iload_n F.1 F.2.1 dX0_fewestToCalm_106 rfl (lv_at hl 3 rfl) ?_
                    refine k_iadd F dX0_fewestToCalm_107 ?_
                    refine k_isub F (by omega) dX0_fewestToCalm_108 ?_
                    refine lv_istore (lv' := [(4, .int (nI ((calI S (S 9 v) (S 7 v) (lackN S (S 7 v) (S 6 v)) (9 - j) (calO S (S 9 v) (S 7 v) (lackN S (S 7 v) (S 6 v)) (hisG S (S 7 v) (S 6 v)) (S 0 1) j) i).1 - ((9 - j) + (lackN S (S 7 v) (S 6 v)))))), (0, .ref (a 0)), (1, .int (nI v)), (2, .int (nI (S 7 v))), (3, .int (nI (lackN S (S 7 v) (S 6 v)))), (5, .int (nI ((calI S (S 9 v) (S 7 v) (lackN S (S 7 v) (S 6 v)) (9 - j) (calO S (S 9 v) (S 7 v) (lackN S (S 7 v) (S 6 v)) (hisG S (S 7 v) (S 6 v)) (S 0 1) j) i).2))), (6, .int (nI (9 - j))), (7, .int (nI i))]) F.1 F.2.1 dX0_fewestToCalm_109 hl (by decide) rfl (fun ls hl => ?_)
                    refine k_inc (k := 5) (lv' := [(5, .int (nI ((calI S (S 9 v) (S 7 v) (lackN S (S 7 v) (S 6 v)) (9 - j) (calO S (S 9 v) (S 7 v) (lackN S (S 7 v) (S 6 v)) (hisG S (S 7 v) (S 6 v)) (S 0 1) j) i).2 + 1))), (4, .int (nI ((calI S (S 9 v) (S 7 v) (lackN S (S 7 v) (S 6 v)) (9 - j) (calO S (S 9 v) (S 7 v) (lackN S (S 7 v) (S 6 v)) (hisG S (S 7 v) (S 6 v)) (S 0 1) j) i).1 - ((9 - j) + (lackN S (S 7 v) (S 6 v)))))), (0, .ref (a 0)), (1, .int (nI v)), (2, .int (nI (S 7 v))), (3, .int (nI (lackN S (S 7 v) (S 6 v)))), (6, .int (nI (9 - j))), (7, .int (nI i))]) F dX0_fewestToCalm_111 hl rfl (by decide) rfl (fun ls hl => ?_)
                    refine k_inc (k := 7) (lv' := [(7, .int (nI (i + 1))), (5, .int (nI ((calI S (S 9 v) (S 7 v) (lackN S (S 7 v) (S 6 v)) (9 - j) (calO S (S 9 v) (S 7 v) (lackN S (S 7 v) (S 6 v)) (hisG S (S 7 v) (S 6 v)) (S 0 1) j) i).2 + 1))), (4, .int (nI ((calI S (S 9 v) (S 7 v) (lackN S (S 7 v) (S 6 v)) (9 - j) (calO S (S 9 v) (S 7 v) (lackN S (S 7 v) (S 6 v)) (hisG S (S 7 v) (S 6 v)) (S 0 1) j) i).1 - ((9 - j) + (lackN S (S 7 v) (S 6 v)))))), (0, .ref (a 0)), (1, .int (nI v)), (2, .int (nI (S 7 v))), (3, .int (nI (lackN S (S 7 v) (S 6 v)))), (6, .int (nI (9 - j)))]) F dX0_fewestToCalm_114 hl rfl (by decide) rfl (fun ls hl => ?_)
                    refine lv_goto (tgt := 48) F.1 F.2.1 dX0_fewestToCalm_117 (by decide) ?_
                    have e_10 : ((calI S (S 9 v) (S 7 v) (lackN S (S 7 v) (S 6 v)) (9 - j) (calO S (S 9 v) (S 7 v) (lackN S (S 7 v) (S 6 v)) (hisG S (S 7 v) (S 6 v)) (S 0 1) j) i).1 - ((9 - j) + (lackN S (S 7 v) (S 6 v)))) = (calI S (S 9 v) (S 7 v) (lackN S (S 7 v) (S 6 v)) (9 - j) (calO S (S 9 v) (S 7 v) (lackN S (S 7 v) (S 6 v)) (hisG S (S 7 v) (S 6 v)) (S 0 1) j) (i + 1)).1 := by simp only [calI]; rw [if_pos (And.intro (Nat.not_le.mp h71) (And.intro h86 h99))]
                    rw [e_10] at hl
                    have e_11 : ((calI S (S 9 v) (S 7 v) (lackN S (S 7 v) (S 6 v)) (9 - j) (calO S (S 9 v) (S 7 v) (lackN S (S 7 v) (S 6 v)) (hisG S (S 7 v) (S 6 v)) (S 0 1) j) i).2 + 1) = (calI S (S 9 v) (S 7 v) (lackN S (S 7 v) (S 6 v)) (9 - j) (calO S (S 9 v) (S 7 v) (lackN S (S 7 v) (S 6 v)) (hisG S (S 7 v) (S 6 v)) (S 0 1) j) (i + 1)).2 := by simp only [calI]; rw [if_pos (And.intro (Nat.not_le.mp h71) (And.intro h86 h99))]
                    rw [e_11] at hl
                    exact ih48 (i + 1) (by omega) (by omega) (cal_rem (by omega) hr2) _ _ _ hP hS (lv_sub hl [3, 4, 5, 6, 2, 1, 7, 0] rfl)
        have e_12 : (calO S (S 9 v) (S 7 v) (lackN S (S 7 v) (S 6 v)) (hisG S (S 7 v) (S 6 v)) (S 0 1) j).1 = (calI S (S 9 v) (S 7 v) (lackN S (S 7 v) (S 6 v)) (9 - j) (calO S (S 9 v) (S 7 v) (lackN S (S 7 v) (S 6 v)) (hisG S (S 7 v) (S 6 v)) (S 0 1) j) 0).1 := rfl
        rw [e_12] at hl
        have e_13 : (calO S (S 9 v) (S 7 v) (lackN S (S 7 v) (S 6 v)) (hisG S (S 7 v) (S 6 v)) (S 0 1) j).2 = (calI S (S 9 v) (S 7 v) (lackN S (S 7 v) (S 6 v)) (9 - j) (calO S (S 9 v) (S 7 v) (lackN S (S 7 v) (S 6 v)) (hisG S (S 7 v) (S 6 v)) (S 0 1) j) 0).2 := rfl
        rw [e_13] at hl
        exact loop48 ((S 0 1) + 1) 0 (by omega) (by omega) hq1 _ _ _ hP hS (lv_sub hl [1, 2, 3, 4, 5, 6, 7, 0] rfl)
  have e_14 : hisG S (S 7 v) (S 6 v) = (calO S (S 9 v) (S 7 v) (lackN S (S 7 v) (S 6 v)) (hisG S (S 7 v) (S 6 v)) (S 0 1) 0).1 := by first | rfl | omega | (rw [show i = S 0 1 by omega]; rfl)
  rw [e_14] at hl
  have e_15 : 0 = (calO S (S 9 v) (S 7 v) (lackN S (S 7 v) (S 6 v)) (hisG S (S 7 v) (S 6 v)) (S 0 1) 0).2 := by first | rfl | omega | (rw [show i = S 0 1 by omega]; rfl)
  rw [e_15] at hl
  have e_16 : 9 = (9 - 0) := by first | rfl | omega | (rw [show i = S 0 1 by omega]; rfl)
  rw [e_16] at hl
  exact loop39 (9 + 1) 0 (by omega) (by omega) (by rw [remN_all hI.mood]; exact Nat.le_refl _) hh9 _ _ _ hP hS (lv_sub hl [5, 6, 4, 3, 2, 1, 0] rfl)
end
