section
-- ===== PART A: goes FIRST, ahead of the names: the tables' words, and 'selects' of the private methods out of them =====
/-- a private method of a class that the tables say can be made, by its rows of tables_1 -/
def lw_okq (q : MethodName × Nat) : Prop := (q.1.cls ≠ "java/lang/invoke/MethodHandle" ∧ q.1.cls ≠ "java/lang/invoke/VarHandle") ∧ Cond.instantiable q.1.cls q.2 ∈ tables_1 ∧ Cond.privateMethod q.1 ∈ tables_1 ∧ Cond.instanceMethod q.1 ∈ tables_1
theorem lw_p0 : lw_okq (⟨"DealtSecret", "isDealt", "()Z"⟩, 11) := ⟨⟨by decide +kernel, by decide +kernel⟩, List.mem_of_getElem? (i := 14) (by decide +kernel), List.mem_of_getElem? (i := 151) (by decide +kernel), List.mem_of_getElem? (i := 152) (by decide +kernel)⟩
theorem lw_p1 : lw_okq (⟨"DealtSecret", "isCoefficient", "(I)Z"⟩, 11) := ⟨⟨by decide +kernel, by decide +kernel⟩, List.mem_of_getElem? (i := 14) (by decide +kernel), List.mem_of_getElem? (i := 155) (by decide +kernel), List.mem_of_getElem? (i := 156) (by decide +kernel)⟩
theorem lw_p2 : lw_okq (⟨"DealtSecret", "isParticipant", "(I)Z"⟩, 11) := ⟨⟨by decide +kernel, by decide +kernel⟩, List.mem_of_getElem? (i := 14) (by decide +kernel), List.mem_of_getElem? (i := 163) (by decide +kernel), List.mem_of_getElem? (i := 164) (by decide +kernel)⟩
theorem lw_p3 : lw_okq (⟨"DealtSecret", "isShareRight", "(LDealtSecret$Participant;)Z"⟩, 11) := ⟨⟨by decide +kernel, by decide +kernel⟩, List.mem_of_getElem? (i := 14) (by decide +kernel), List.mem_of_getElem? (i := 171) (by decide +kernel), List.mem_of_getElem? (i := 172) (by decide +kernel)⟩
theorem lw_p4 : lw_okq (⟨"DealtSecret", "isPairRight", "(LDealtSecret$Participant;II)Z"⟩, 11) := ⟨⟨by decide +kernel, by decide +kernel⟩, List.mem_of_getElem? (i := 14) (by decide +kernel), List.mem_of_getElem? (i := 175) (by decide +kernel), List.mem_of_getElem? (i := 176) (by decide +kernel)⟩
theorem lw_p5 : lw_okq (⟨"DealtSecret", "publishedAt", "(I)I"⟩, 11) := ⟨⟨by decide +kernel, by decide +kernel⟩, List.mem_of_getElem? (i := 14) (by decide +kernel), List.mem_of_getElem? (i := 191) (by decide +kernel), List.mem_of_getElem? (i := 192) (by decide +kernel)⟩
theorem lw_p6 : lw_okq (⟨"java/lang/Throwable", "fillInStackTrace", "(I)Ljava/lang/Throwable;"⟩, 6) := ⟨⟨by decide +kernel, by decide +kernel⟩, List.mem_of_getElem? (i := 254) (by decide +kernel), List.mem_of_getElem? (i := 252) (by decide +kernel), List.mem_of_getElem? (i := 253) (by decide +kernel)⟩
theorem lw_p7 : lw_okq (⟨"DealtSecret", "demandStage", "(I)V"⟩, 11) := ⟨⟨by decide +kernel, by decide +kernel⟩, List.mem_of_getElem? (i := 14) (by decide +kernel), List.mem_of_getElem? (i := 299) (by decide +kernel), List.mem_of_getElem? (i := 300) (by decide +kernel)⟩
theorem lw_p8 : lw_okq (⟨"DealtSecret", "demandCoefficient", "(I)V"⟩, 11) := ⟨⟨by decide +kernel, by decide +kernel⟩, List.mem_of_getElem? (i := 14) (by decide +kernel), List.mem_of_getElem? (i := 319) (by decide +kernel), List.mem_of_getElem? (i := 320) (by decide +kernel)⟩
theorem lw_p9 : lw_okq (⟨"DealtSecret", "blindNumber", "(I)I"⟩, 11) := ⟨⟨by decide +kernel, by decide +kernel⟩, List.mem_of_getElem? (i := 14) (by decide +kernel), List.mem_of_getElem? (i := 331) (by decide +kernel), List.mem_of_getElem? (i := 332) (by decide +kernel)⟩
theorem lw_p10 : lw_okq (⟨"DealtSecret", "publishCommitments", "()V"⟩, 11) := ⟨⟨by decide +kernel, by decide +kernel⟩, List.mem_of_getElem? (i := 14) (by decide +kernel), List.mem_of_getElem? (i := 342) (by decide +kernel), List.mem_of_getElem? (i := 343) (by decide +kernel)⟩
theorem lw_p11 : lw_okq (⟨"DealtSecret", "sendShares", "()V"⟩, 11) := ⟨⟨by decide +kernel, by decide +kernel⟩, List.mem_of_getElem? (i := 14) (by decide +kernel), List.mem_of_getElem? (i := 346) (by decide +kernel), List.mem_of_getElem? (i := 347) (by decide +kernel)⟩
theorem lw_p12 : lw_okq (⟨"DealtSecret", "valueAt", "(I[I)I"⟩, 11) := ⟨⟨by decide +kernel, by decide +kernel⟩, List.mem_of_getElem? (i := 14) (by decide +kernel), List.mem_of_getElem? (i := 350) (by decide +kernel), List.mem_of_getElem? (i := 351) (by decide +kernel)⟩
theorem lw_p13 : lw_okq (⟨"DealtSecret", "raiseComplaints", "()V"⟩, 11) := ⟨⟨by decide +kernel, by decide +kernel⟩, List.mem_of_getElem? (i := 14) (by decide +kernel), List.mem_of_getElem? (i := 366) (by decide +kernel), List.mem_of_getElem? (i := 367) (by decide +kernel)⟩
theorem lw_p14 : lw_okq (⟨"DealtSecret", "isEveryComplaintAnswered", "()Z"⟩, 11) := ⟨⟨by decide +kernel, by decide +kernel⟩, List.mem_of_getElem? (i := 14) (by decide +kernel), List.mem_of_getElem? (i := 371) (by decide +kernel), List.mem_of_getElem? (i := 372) (by decide +kernel)⟩
theorem lw_p15 : lw_okq (⟨"DealtSecret", "demandParticipant", "(I)V"⟩, 11) := ⟨⟨by decide +kernel, by decide +kernel⟩, List.mem_of_getElem? (i := 14) (by decide +kernel), List.mem_of_getElem? (i := 383) (by decide +kernel), List.mem_of_getElem? (i := 384) (by decide +kernel)⟩
def lw_privs_1 : List (MethodName × Nat) := [(⟨"DealtSecret", "isDealt", "()Z"⟩, 11), (⟨"DealtSecret", "isCoefficient", "(I)Z"⟩, 11), (⟨"DealtSecret", "isParticipant", "(I)Z"⟩, 11), (⟨"DealtSecret", "isShareRight", "(LDealtSecret$Participant;)Z"⟩, 11), (⟨"DealtSecret", "isPairRight", "(LDealtSecret$Participant;II)Z"⟩, 11), (⟨"DealtSecret", "publishedAt", "(I)I"⟩, 11), (⟨"java/lang/Throwable", "fillInStackTrace", "(I)Ljava/lang/Throwable;"⟩, 6), (⟨"DealtSecret", "demandStage", "(I)V"⟩, 11), (⟨"DealtSecret", "demandCoefficient", "(I)V"⟩, 11), (⟨"DealtSecret", "blindNumber", "(I)I"⟩, 11), (⟨"DealtSecret", "publishCommitments", "()V"⟩, 11), (⟨"DealtSecret", "sendShares", "()V"⟩, 11), (⟨"DealtSecret", "valueAt", "(I[I)I"⟩, 11), (⟨"DealtSecret", "raiseComplaints", "()V"⟩, 11), (⟨"DealtSecret", "isEveryComplaintAnswered", "()Z"⟩, 11), (⟨"DealtSecret", "demandParticipant", "(I)V"⟩, 11)]
theorem lw_r1 : ∀ q ∈ lw_privs_1, lw_okq q := List.forall_mem_cons.mpr ⟨lw_p0, List.forall_mem_cons.mpr ⟨lw_p1, List.forall_mem_cons.mpr ⟨lw_p2, List.forall_mem_cons.mpr ⟨lw_p3, List.forall_mem_cons.mpr ⟨lw_p4, List.forall_mem_cons.mpr ⟨lw_p5, List.forall_mem_cons.mpr ⟨lw_p6, List.forall_mem_cons.mpr ⟨lw_p7, List.forall_mem_cons.mpr ⟨lw_p8, List.forall_mem_cons.mpr ⟨lw_p9, List.forall_mem_cons.mpr ⟨lw_p10, List.forall_mem_cons.mpr ⟨lw_p11, List.forall_mem_cons.mpr ⟨lw_p12, List.forall_mem_cons.mpr ⟨lw_p13, List.forall_mem_cons.mpr ⟨lw_p14, List.forall_mem_cons.mpr ⟨lw_p15, fun _ h => absurd h List.not_mem_nil⟩⟩⟩⟩⟩⟩⟩⟩⟩⟩⟩⟩⟩⟩⟩⟩
theorem lw_p16 : lw_okq (⟨"DealtSecret", "layOpen", "(LDealtSecret$Participant;II)Z"⟩, 11) := ⟨⟨by decide +kernel, by decide +kernel⟩, List.mem_of_getElem? (i := 14) (by decide +kernel), List.mem_of_getElem? (i := 441) (by decide +kernel), List.mem_of_getElem? (i := 442) (by decide +kernel)⟩
theorem lw_p17 : lw_okq (⟨"DealtSecret", "lastOfTheChosen", "()I"⟩, 11) := ⟨⟨by decide +kernel, by decide +kernel⟩, List.mem_of_getElem? (i := 14) (by decide +kernel), List.mem_of_getElem? (i := 475) (by decide +kernel), List.mem_of_getElem? (i := 476) (by decide +kernel)⟩
theorem lw_p18 : lw_okq (⟨"DealtSecret", "weightAtZero", "(II)I"⟩, 11) := ⟨⟨by decide +kernel, by decide +kernel⟩, List.mem_of_getElem? (i := 14) (by decide +kernel), List.mem_of_getElem? (i := 479) (by decide +kernel), List.mem_of_getElem? (i := 480) (by decide +kernel)⟩
theorem lw_p19 : lw_okq (⟨"DealtSecretModel", "refuses", "(ZZ)Z"⟩, 24) := ⟨⟨by decide +kernel, by decide +kernel⟩, List.mem_of_getElem? (i := 491) (by decide +kernel), List.mem_of_getElem? (i := 597) (by decide +kernel), List.mem_of_getElem? (i := 598) (by decide +kernel)⟩
theorem lw_p20 : lw_okq (⟨"DealtSecretModel", "reduced", "(I)I"⟩, 24) := ⟨⟨by decide +kernel, by decide +kernel⟩, List.mem_of_getElem? (i := 491) (by decide +kernel), List.mem_of_getElem? (i := 601) (by decide +kernel), List.mem_of_getElem? (i := 602) (by decide +kernel)⟩
theorem lw_p21 : lw_okq (⟨"DealtSecretModel", "fit", "(III)Z"⟩, 24) := ⟨⟨by decide +kernel, by decide +kernel⟩, List.mem_of_getElem? (i := 491) (by decide +kernel), List.mem_of_getElem? (i := 609) (by decide +kernel), List.mem_of_getElem? (i := 610) (by decide +kernel)⟩
theorem lw_p22 : lw_okq (⟨"DealtSecretModel", "paired", "(II)I"⟩, 24) := ⟨⟨by decide +kernel, by decide +kernel⟩, List.mem_of_getElem? (i := 491) (by decide +kernel), List.mem_of_getElem? (i := 613) (by decide +kernel), List.mem_of_getElem? (i := 614) (by decide +kernel)⟩
theorem lw_p23 : lw_okq (⟨"DealtSecretModel", "deal", "()V"⟩, 24) := ⟨⟨by decide +kernel, by decide +kernel⟩, List.mem_of_getElem? (i := 491) (by decide +kernel), List.mem_of_getElem? (i := 617) (by decide +kernel), List.mem_of_getElem? (i := 618) (by decide +kernel)⟩
theorem lw_p24 : lw_okq (⟨"DealtSecretModel", "at", "([II)I"⟩, 24) := ⟨⟨by decide +kernel, by decide +kernel⟩, List.mem_of_getElem? (i := 491) (by decide +kernel), List.mem_of_getElem? (i := 621) (by decide +kernel), List.mem_of_getElem? (i := 622) (by decide +kernel)⟩
theorem lw_p25 : lw_okq (⟨"DealtSecretModel", "isOne", "(I)Z"⟩, 24) := ⟨⟨by decide +kernel, by decide +kernel⟩, List.mem_of_getElem? (i := 491) (by decide +kernel), List.mem_of_getElem? (i := 629) (by decide +kernel), List.mem_of_getElem? (i := 630) (by decide +kernel)⟩
theorem lw_p26 : lw_okq (⟨"DealtSecretModel", "lay", "(III)Z"⟩, 24) := ⟨⟨by decide +kernel, by decide +kernel⟩, List.mem_of_getElem? (i := 491) (by decide +kernel), List.mem_of_getElem? (i := 653) (by decide +kernel), List.mem_of_getElem? (i := 654) (by decide +kernel)⟩
theorem lw_p27 : lw_okq (⟨"DealtSecretModel", "minus", "(II)I"⟩, 24) := ⟨⟨by decide +kernel, by decide +kernel⟩, List.mem_of_getElem? (i := 491) (by decide +kernel), List.mem_of_getElem? (i := 657) (by decide +kernel), List.mem_of_getElem? (i := 658) (by decide +kernel)⟩
theorem lw_p28 : lw_okq (⟨"DealtSecretModel", "over", "(II)I"⟩, 24) := ⟨⟨by decide +kernel, by decide +kernel⟩, List.mem_of_getElem? (i := 491) (by decide +kernel), List.mem_of_getElem? (i := 661) (by decide +kernel), List.mem_of_getElem? (i := 662) (by decide +kernel)⟩
theorem lw_p29 : lw_okq (⟨"DealtSecretModel", "atZero", "()I"⟩, 24) := ⟨⟨by decide +kernel, by decide +kernel⟩, List.mem_of_getElem? (i := 491) (by decide +kernel), List.mem_of_getElem? (i := 673) (by decide +kernel), List.mem_of_getElem? (i := 674) (by decide +kernel)⟩
def lw_privs_2 : List (MethodName × Nat) := [(⟨"DealtSecret", "layOpen", "(LDealtSecret$Participant;II)Z"⟩, 11), (⟨"DealtSecret", "lastOfTheChosen", "()I"⟩, 11), (⟨"DealtSecret", "weightAtZero", "(II)I"⟩, 11), (⟨"DealtSecretModel", "refuses", "(ZZ)Z"⟩, 24), (⟨"DealtSecretModel", "reduced", "(I)I"⟩, 24), (⟨"DealtSecretModel", "fit", "(III)Z"⟩, 24), (⟨"DealtSecretModel", "paired", "(II)I"⟩, 24), (⟨"DealtSecretModel", "deal", "()V"⟩, 24), (⟨"DealtSecretModel", "at", "([II)I"⟩, 24), (⟨"DealtSecretModel", "isOne", "(I)Z"⟩, 24), (⟨"DealtSecretModel", "lay", "(III)Z"⟩, 24), (⟨"DealtSecretModel", "minus", "(II)I"⟩, 24), (⟨"DealtSecretModel", "over", "(II)I"⟩, 24), (⟨"DealtSecretModel", "atZero", "()I"⟩, 24)]
theorem lw_r2 : ∀ q ∈ lw_privs_2, lw_okq q := List.forall_mem_cons.mpr ⟨lw_p16, List.forall_mem_cons.mpr ⟨lw_p17, List.forall_mem_cons.mpr ⟨lw_p18, List.forall_mem_cons.mpr ⟨lw_p19, List.forall_mem_cons.mpr ⟨lw_p20, List.forall_mem_cons.mpr ⟨lw_p21, List.forall_mem_cons.mpr ⟨lw_p22, List.forall_mem_cons.mpr ⟨lw_p23, List.forall_mem_cons.mpr ⟨lw_p24, List.forall_mem_cons.mpr ⟨lw_p25, List.forall_mem_cons.mpr ⟨lw_p26, List.forall_mem_cons.mpr ⟨lw_p27, List.forall_mem_cons.mpr ⟨lw_p28, List.forall_mem_cons.mpr ⟨lw_p29, fun _ h => absurd h List.not_mem_nil⟩⟩⟩⟩⟩⟩⟩⟩⟩⟩⟩⟩⟩⟩
def lw_privs : List (MethodName × Nat) := lw_privs_1 ++ (lw_privs_2)
def lw_tbl : List Cond := k2_sels lw_privs ++ tables_1
theorem lw_privs_ok : ∀ q ∈ lw_privs, lw_okq q := by
  show ∀ q ∈ lw_privs_1 ++ (lw_privs_2), lw_okq q
  exact List.forall_mem_append.mpr ⟨lw_r1, lw_r2⟩
-- ===== end of PART A; then your names; then what follows =====
end
section
/-! all words of the tables that a call carries on, and each by its place -/
def AL : List Cond := lw_tbl.filter goodWord
theorem al_in : ∀ w ∈ AL, w ∈ lw_tbl := fun w h => (List.mem_filter.mp h).1
theorem al_good : ∀ w ∈ AL, (w.onTables && w.keeps) = true ∨ ∃ ty, w = .arrayClass ty := fun w h => good_of_word (List.mem_filter.mp h).2
theorem al_sub {ws : List Cond} (h : ∀ w ∈ ws, w ∈ AL) : GoodIn AL ws := fun w hw => ⟨h w hw, al_good w (h w hw)⟩
theorem al_t1 {w : Cond} (i : Nat) (h : tables_1_1[i]? = some w) (g : goodWord w = true) : w ∈ AL := List.mem_filter.mpr ⟨List.mem_append_right _ (List.mem_append_left _ (List.mem_of_getElem? h)), g⟩
theorem al_t2 {w : Cond} (i : Nat) (h : tables_1_2[i]? = some w) (g : goodWord w = true) : w ∈ AL := List.mem_filter.mpr ⟨List.mem_append_right _ (List.mem_append_right _ (List.mem_append_left _ (List.mem_of_getElem? h))), g⟩
theorem al_t3 {w : Cond} (i : Nat) (h : tables_1_3[i]? = some w) (g : goodWord w = true) : w ∈ AL := List.mem_filter.mpr ⟨List.mem_append_right _ (List.mem_append_right _ (List.mem_append_right _ (List.mem_of_getElem? h))), g⟩
theorem al_ts {q : MethodName × Nat} (i : Nat) (h : lw_privs[i]? = some q) : Cond.selects q.1.cls q.1 q.1 ∈ AL := List.mem_filter.mpr ⟨List.mem_append_left _ (List.mem_map.mpr ⟨q, List.mem_of_getElem? h, rfl⟩), rfl⟩
theorem k_0 : (Jvm.Cond.initialized "DealtSecretLaw") ∈ AL := al_t1 0 rfl rfl
theorem k_1 : (Jvm.Cond.initialized "DealtSecret") ∈ AL := al_t1 1 rfl rfl
theorem k_2 : (Jvm.Cond.initialized "DealtSecret$Group") ∈ AL := al_t1 2 rfl rfl
theorem k_3 : (Jvm.Cond.initialized "DealtSecret$Participant") ∈ AL := al_t1 3 rfl rfl
theorem k_4 : (Jvm.Cond.initialized "DealtSecretModel") ∈ AL := al_t1 4 rfl rfl
theorem k_5 : (Jvm.Cond.initialized "java/lang/Throwable") ∈ AL := al_t1 5 rfl rfl
theorem k_6 : (Jvm.Cond.initialized "java/lang/Exception") ∈ AL := al_t1 6 rfl rfl
theorem k_7 : (Jvm.Cond.initialized "java/lang/RuntimeException") ∈ AL := al_t1 7 rfl rfl
theorem k_8 : (Jvm.Cond.initialized "java/lang/IllegalArgumentException") ∈ AL := al_t1 8 rfl rfl
theorem k_9 : (Jvm.Cond.initialized "java/util/Arrays") ∈ AL := al_t1 9 rfl rfl
theorem k_10 : (Jvm.Cond.initialized "java/lang/IllegalStateException") ∈ AL := al_t1 10 rfl rfl
theorem k_11 : (Jvm.Cond.initialized "java/lang/Math") ∈ AL := al_t1 11 rfl rfl
theorem k_12 : (Jvm.Cond.initialized "java/util/NoSuchElementException") ∈ AL := al_t1 12 rfl rfl
theorem k_13 : (Jvm.Cond.classLink "DealtSecretLaw" (8 : Nat) "DealtSecret") ∈ AL := al_t1 13 rfl rfl
theorem k_14 : (Jvm.Cond.instantiable "DealtSecret" (11 : Nat)) ∈ AL := al_t1 14 rfl rfl
theorem k_15 : (Jvm.Cond.methodLink "DealtSecretLaw" (63 : Nat) ({ cls := "DealtSecret", name := "<init>", desc := "(IIII)V" } : Jvm.MethodName)) ∈ AL := al_t1 15 rfl rfl
theorem k_16 : (Jvm.Cond.instanceMethod ({ cls := "DealtSecret", name := "<init>", desc := "(IIII)V" } : Jvm.MethodName)) ∈ AL := al_t1 16 rfl rfl
theorem k_17 : (Jvm.Cond.code ({ cls := "DealtSecret", name := "<init>", desc := "(IIII)V" } : Jvm.MethodName) prog_1_method_1_code (6 : Nat) (Option.none : Option Jvm.ClassFile.FieldType)) ∈ AL := al_t1 17 rfl rfl
theorem k_18 : (Jvm.Cond.methodLink "DealtSecret" (1 : Nat) ({ cls := "java/lang/Object", name := "<init>", desc := "()V" } : Jvm.MethodName)) ∈ AL := al_t1 18 rfl rfl
theorem k_19 : (Jvm.Cond.instanceMethod ({ cls := "java/lang/Object", name := "<init>", desc := "()V" } : Jvm.MethodName)) ∈ AL := al_t1 19 rfl rfl
theorem k_20 : (Jvm.Cond.code ({ cls := "java/lang/Object", name := "<init>", desc := "()V" } : Jvm.MethodName) object_method_1_code (1 : Nat) (Option.none : Option Jvm.ClassFile.FieldType)) ∈ AL := al_t1 20 rfl rfl
theorem k_21 : (Jvm.Cond.methodLink "DealtSecret" (7 : Nat) ({ cls := "DealtSecret$Group", name := "told", desc := "(IIII)LDealtSecret$Group;" } : Jvm.MethodName)) ∈ AL := al_t1 21 rfl rfl
theorem k_22 : (Jvm.Cond.static ({ cls := "DealtSecret$Group", name := "told", desc := "(IIII)LDealtSecret$Group;" } : Jvm.MethodName)) ∈ AL := al_t1 22 rfl rfl
theorem k_23 : (Jvm.Cond.code ({ cls := "DealtSecret$Group", name := "told", desc := "(IIII)LDealtSecret$Group;" } : Jvm.MethodName) prog_2_method_2_code (4 : Nat) (Option.some (Jvm.ClassFile.FieldType.object "DealtSecret$Group"))) ∈ AL := al_t1 23 rfl rfl
theorem k_24 : (Jvm.Cond.methodLink "DealtSecret$Group" (22 : Nat) ({ cls := "DealtSecret$Group", name := "isSound", desc := "(IIII)Z" } : Jvm.MethodName)) ∈ AL := al_t1 24 rfl rfl
theorem k_25 : (Jvm.Cond.static ({ cls := "DealtSecret$Group", name := "isSound", desc := "(IIII)Z" } : Jvm.MethodName)) ∈ AL := al_t1 25 rfl rfl
theorem k_26 : (Jvm.Cond.code ({ cls := "DealtSecret$Group", name := "isSound", desc := "(IIII)Z" } : Jvm.MethodName) prog_2_method_3_code (4 : Nat) (Option.some Jvm.ClassFile.FieldType.boolean)) ∈ AL := al_t1 26 rfl rfl
theorem k_27 : (Jvm.Cond.methodLink "DealtSecret$Group" (29 : Nat) ({ cls := "DealtSecret$Group", name := "isElement", desc := "(III)Z" } : Jvm.MethodName)) ∈ AL := al_t1 27 rfl rfl
theorem k_28 : (Jvm.Cond.static ({ cls := "DealtSecret$Group", name := "isElement", desc := "(III)Z" } : Jvm.MethodName)) ∈ AL := al_t1 28 rfl rfl
theorem k_29 : (Jvm.Cond.code ({ cls := "DealtSecret$Group", name := "isElement", desc := "(III)Z" } : Jvm.MethodName) prog_2_method_4_code (3 : Nat) (Option.some Jvm.ClassFile.FieldType.boolean)) ∈ AL := al_t1 29 rfl rfl
theorem k_30 : (Jvm.Cond.methodLink "DealtSecret$Group" (37 : Nat) ({ cls := "DealtSecret$Group", name := "powerModulo", desc := "(III)I" } : Jvm.MethodName)) ∈ AL := al_t1 30 rfl rfl
theorem k_31 : (Jvm.Cond.static ({ cls := "DealtSecret$Group", name := "powerModulo", desc := "(III)I" } : Jvm.MethodName)) ∈ AL := al_t1 31 rfl rfl
theorem k_32 : (Jvm.Cond.code ({ cls := "DealtSecret$Group", name := "powerModulo", desc := "(III)I" } : Jvm.MethodName) prog_2_method_6_code (8 : Nat) (Option.some Jvm.ClassFile.FieldType.int)) ∈ AL := al_t1 32 rfl rfl
theorem k_33 : (Jvm.Cond.methodLink "DealtSecret$Group" (33 : Nat) ({ cls := "DealtSecret$Group", name := "isPrime", desc := "(I)Z" } : Jvm.MethodName)) ∈ AL := al_t1 33 rfl rfl
theorem k_34 : (Jvm.Cond.static ({ cls := "DealtSecret$Group", name := "isPrime", desc := "(I)Z" } : Jvm.MethodName)) ∈ AL := al_t1 34 rfl rfl
theorem k_35 : (Jvm.Cond.code ({ cls := "DealtSecret$Group", name := "isPrime", desc := "(I)Z" } : Jvm.MethodName) prog_2_method_5_code (2 : Nat) (Option.some Jvm.ClassFile.FieldType.boolean)) ∈ AL := al_t1 35 rfl rfl
theorem k_36 : (Jvm.Cond.classLink "DealtSecret$Group" (8 : Nat) "DealtSecret$Group") ∈ AL := al_t1 36 rfl rfl
theorem k_37 : (Jvm.Cond.instantiable "DealtSecret$Group" (4 : Nat)) ∈ AL := al_t1 37 rfl rfl
theorem k_38 : (Jvm.Cond.methodLink "DealtSecret$Group" (26 : Nat) ({ cls := "DealtSecret$Group", name := "<init>", desc := "(IIII)V" } : Jvm.MethodName)) ∈ AL := al_t1 38 rfl rfl
theorem k_39 : (Jvm.Cond.instanceMethod ({ cls := "DealtSecret$Group", name := "<init>", desc := "(IIII)V" } : Jvm.MethodName)) ∈ AL := al_t1 39 rfl rfl
theorem k_40 : (Jvm.Cond.code ({ cls := "DealtSecret$Group", name := "<init>", desc := "(IIII)V" } : Jvm.MethodName) prog_2_method_1_code (5 : Nat) (Option.none : Option Jvm.ClassFile.FieldType)) ∈ AL := al_t1 40 rfl rfl
theorem k_41 : (Jvm.Cond.methodLink "DealtSecret$Group" (1 : Nat) ({ cls := "java/lang/Object", name := "<init>", desc := "()V" } : Jvm.MethodName)) ∈ AL := al_t1 41 rfl rfl
theorem k_42 : (Jvm.Cond.fieldLink "DealtSecret$Group" (7 : Nat) "DealtSecret$Group" "p" "I") ∈ AL := al_t1 42 rfl rfl
theorem k_43 : (Jvm.Cond.fieldLink "DealtSecret" (38 : Nat) "DealtSecret$Group" "p" "I") ∈ AL := al_t1 43 rfl rfl
theorem k_44 : (Jvm.Cond.fieldLink "DealtSecret$Group" (13 : Nat) "DealtSecret$Group" "q" "I") ∈ AL := al_t1 44 rfl rfl
theorem k_45 : (Jvm.Cond.fieldLink "DealtSecret" (42 : Nat) "DealtSecret$Group" "q" "I") ∈ AL := al_t1 45 rfl rfl
theorem k_46 : (Jvm.Cond.fieldLink "DealtSecret$Group" (16 : Nat) "DealtSecret$Group" "g" "I") ∈ AL := al_t1 46 rfl rfl
theorem k_47 : (Jvm.Cond.fieldLink "DealtSecret" (45 : Nat) "DealtSecret$Group" "g" "I") ∈ AL := al_t1 47 rfl rfl
theorem k_48 : (Jvm.Cond.fieldLink "DealtSecret$Group" (19 : Nat) "DealtSecret$Group" "h" "I") ∈ AL := al_t1 48 rfl rfl
theorem k_49 : (Jvm.Cond.fieldLink "DealtSecret" (48 : Nat) "DealtSecret$Group" "h" "I") ∈ AL := al_t1 49 rfl rfl
theorem k_50 : (Jvm.Cond.laysFinal "DealtSecret$Group" "DealtSecret$Group" "p" "I") ∈ AL := al_t1 50 rfl rfl
theorem k_51 : (Jvm.Cond.soleField "DealtSecret$Group" "p") ∈ AL := al_t1 51 rfl rfl
theorem k_52 : (Jvm.Cond.laysFinal "DealtSecret$Group" "DealtSecret$Group" "q" "I") ∈ AL := al_t1 52 rfl rfl
theorem k_53 : (Jvm.Cond.soleField "DealtSecret$Group" "q") ∈ AL := al_t1 53 rfl rfl
theorem k_54 : (Jvm.Cond.laysFinal "DealtSecret$Group" "DealtSecret$Group" "g" "I") ∈ AL := al_t1 54 rfl rfl
theorem k_55 : (Jvm.Cond.soleField "DealtSecret$Group" "g") ∈ AL := al_t1 55 rfl rfl
theorem k_56 : (Jvm.Cond.laysFinal "DealtSecret$Group" "DealtSecret$Group" "h" "I") ∈ AL := al_t1 56 rfl rfl
theorem k_57 : (Jvm.Cond.soleField "DealtSecret$Group" "h") ∈ AL := al_t1 57 rfl rfl
theorem k_58 : (Jvm.Cond.classLink "DealtSecret" (29 : Nat) "DealtSecret$Participant") ∈ AL := al_t1 59 rfl rfl
theorem k_59 : (Jvm.Cond.instantiable "DealtSecret$Participant" (9 : Nat)) ∈ AL := al_t1 61 rfl rfl
theorem k_60 : (Jvm.Cond.methodLink "DealtSecret" (35 : Nat) ({ cls := "DealtSecret$Participant", name := "<init>", desc := "(I)V" } : Jvm.MethodName)) ∈ AL := al_t1 62 rfl rfl
theorem k_61 : (Jvm.Cond.instanceMethod ({ cls := "DealtSecret$Participant", name := "<init>", desc := "(I)V" } : Jvm.MethodName)) ∈ AL := al_t1 63 rfl rfl
theorem k_62 : (Jvm.Cond.code ({ cls := "DealtSecret$Participant", name := "<init>", desc := "(I)V" } : Jvm.MethodName) prog_3_method_1_code (2 : Nat) (Option.none : Option Jvm.ClassFile.FieldType)) ∈ AL := al_t1 64 rfl rfl
theorem k_63 : (Jvm.Cond.methodLink "DealtSecret$Participant" (1 : Nat) ({ cls := "java/lang/Object", name := "<init>", desc := "()V" } : Jvm.MethodName)) ∈ AL := al_t1 65 rfl rfl
theorem k_64 : (Jvm.Cond.fieldLink "DealtSecret$Participant" (7 : Nat) "DealtSecret$Participant" "number" "I") ∈ AL := al_t1 66 rfl rfl
theorem k_65 : (Jvm.Cond.fieldLink "DealtSecret" (210 : Nat) "DealtSecret$Participant" "number" "I") ∈ AL := al_t1 67 rfl rfl
theorem k_66 : (Jvm.Cond.fieldLink "DealtSecret$Participant" (26 : Nat) "DealtSecret$Participant" "u" "I") ∈ AL := al_t1 68 rfl rfl
theorem k_67 : (Jvm.Cond.fieldLink "DealtSecret" (147 : Nat) "DealtSecret$Participant" "u" "I") ∈ AL := al_t1 69 rfl rfl
theorem k_68 : (Jvm.Cond.fieldLink "DealtSecret$Participant" (29 : Nat) "DealtSecret$Participant" "v" "I") ∈ AL := al_t1 70 rfl rfl
theorem k_69 : (Jvm.Cond.fieldLink "DealtSecret" (150 : Nat) "DealtSecret$Participant" "v" "I") ∈ AL := al_t1 71 rfl rfl
theorem k_70 : (Jvm.Cond.fieldLink "DealtSecret$Participant" (13 : Nat) "DealtSecret$Participant" "corrupt" "Z") ∈ AL := al_t1 72 rfl rfl
theorem k_71 : (Jvm.Cond.fieldLink "DealtSecret" (129 : Nat) "DealtSecret$Participant" "corrupt" "Z") ∈ AL := al_t1 73 rfl rfl
theorem k_72 : (Jvm.Cond.fieldLink "DealtSecret$Participant" (17 : Nat) "DealtSecret$Participant" "complains" "Z") ∈ AL := al_t1 74 rfl rfl
theorem k_73 : (Jvm.Cond.fieldLink "DealtSecret" (132 : Nat) "DealtSecret$Participant" "complains" "Z") ∈ AL := al_t1 75 rfl rfl
theorem k_74 : (Jvm.Cond.fieldLink "DealtSecret$Participant" (20 : Nat) "DealtSecret$Participant" "answered" "Z") ∈ AL := al_t1 76 rfl rfl
theorem k_75 : (Jvm.Cond.fieldLink "DealtSecret" (144 : Nat) "DealtSecret$Participant" "answered" "Z") ∈ AL := al_t1 77 rfl rfl
theorem k_76 : (Jvm.Cond.fieldLink "DealtSecret$Participant" (23 : Nat) "DealtSecret$Participant" "kept" "Z") ∈ AL := al_t1 78 rfl rfl
theorem k_77 : (Jvm.Cond.fieldLink "DealtSecret" (165 : Nat) "DealtSecret$Participant" "kept" "Z") ∈ AL := al_t1 79 rfl rfl
theorem k_78 : (Jvm.Cond.fieldLink "DealtSecret$Participant" (32 : Nat) "DealtSecret$Participant" "keptU" "I") ∈ AL := al_t1 80 rfl rfl
theorem k_79 : (Jvm.Cond.fieldLink "DealtSecret" (168 : Nat) "DealtSecret$Participant" "keptU" "I") ∈ AL := al_t1 81 rfl rfl
theorem k_80 : (Jvm.Cond.fieldLink "DealtSecret$Participant" (35 : Nat) "DealtSecret$Participant" "keptV" "I") ∈ AL := al_t1 82 rfl rfl
theorem k_81 : (Jvm.Cond.fieldLink "DealtSecret" (224 : Nat) "DealtSecret$Participant" "keptV" "I") ∈ AL := al_t1 83 rfl rfl
theorem k_82 : (Jvm.Cond.laysFinal "DealtSecret$Participant" "DealtSecret$Participant" "number" "I") ∈ AL := al_t1 84 rfl rfl
theorem k_83 : (Jvm.Cond.soleField "DealtSecret$Participant" "number") ∈ AL := al_t1 85 rfl rfl
theorem k_84 : (Jvm.Cond.lays "DealtSecret$Participant" "DealtSecret$Participant" "u" "I") ∈ AL := al_t1 86 rfl rfl
theorem k_85 : (Jvm.Cond.soleField "DealtSecret$Participant" "u") ∈ AL := al_t1 87 rfl rfl
theorem k_86 : (Jvm.Cond.lays "DealtSecret$Participant" "DealtSecret$Participant" "v" "I") ∈ AL := al_t1 88 rfl rfl
theorem k_87 : (Jvm.Cond.soleField "DealtSecret$Participant" "v") ∈ AL := al_t1 89 rfl rfl
theorem k_88 : (Jvm.Cond.lays "DealtSecret$Participant" "DealtSecret$Participant" "corrupt" "Z") ∈ AL := al_t1 90 rfl rfl
theorem k_89 : (Jvm.Cond.soleField "DealtSecret$Participant" "corrupt") ∈ AL := al_t1 91 rfl rfl
theorem k_90 : (Jvm.Cond.lays "DealtSecret$Participant" "DealtSecret$Participant" "complains" "Z") ∈ AL := al_t1 92 rfl rfl
theorem k_91 : (Jvm.Cond.soleField "DealtSecret$Participant" "complains") ∈ AL := al_t1 93 rfl rfl
theorem k_92 : (Jvm.Cond.lays "DealtSecret$Participant" "DealtSecret$Participant" "answered" "Z") ∈ AL := al_t1 94 rfl rfl
theorem k_93 : (Jvm.Cond.soleField "DealtSecret$Participant" "answered") ∈ AL := al_t1 95 rfl rfl
theorem k_94 : (Jvm.Cond.lays "DealtSecret$Participant" "DealtSecret$Participant" "kept" "Z") ∈ AL := al_t1 96 rfl rfl
theorem k_95 : (Jvm.Cond.soleField "DealtSecret$Participant" "kept") ∈ AL := al_t1 97 rfl rfl
theorem k_96 : (Jvm.Cond.lays "DealtSecret$Participant" "DealtSecret$Participant" "keptU" "I") ∈ AL := al_t1 98 rfl rfl
theorem k_97 : (Jvm.Cond.soleField "DealtSecret$Participant" "keptU") ∈ AL := al_t1 99 rfl rfl
theorem k_98 : (Jvm.Cond.lays "DealtSecret$Participant" "DealtSecret$Participant" "keptV" "I") ∈ AL := al_t1 100 rfl rfl
theorem k_99 : (Jvm.Cond.soleField "DealtSecret$Participant" "keptV") ∈ AL := al_t1 101 rfl rfl
theorem k_100 : (Jvm.Cond.arrayClass Jvm.ClassFile.FieldType.int) ∈ AL := al_t1 103 rfl rfl
theorem k_101 : (Jvm.Cond.fieldLink "DealtSecret" (13 : Nat) "DealtSecret" "group" "LDealtSecret$Group;") ∈ AL := al_t1 104 rfl rfl
theorem k_102 : (Jvm.Cond.fieldLink "DealtSecret" (19 : Nat) "DealtSecret" "a" "[I") ∈ AL := al_t1 105 rfl rfl
theorem k_103 : (Jvm.Cond.fieldLink "DealtSecret" (23 : Nat) "DealtSecret" "b" "[I") ∈ AL := al_t1 106 rfl rfl
theorem k_104 : (Jvm.Cond.fieldLink "DealtSecret" (26 : Nat) "DealtSecret" "published" "[I") ∈ AL := al_t1 107 rfl rfl
theorem k_105 : (Jvm.Cond.fieldLink "DealtSecret" (31 : Nat) "DealtSecret" "participants" "[LDealtSecret$Participant;") ∈ AL := al_t1 108 rfl rfl
theorem k_106 : (Jvm.Cond.fieldLink "DealtSecret" (80 : Nat) "DealtSecret" "stage" "I") ∈ AL := al_t1 109 rfl rfl
theorem k_107 : (Jvm.Cond.fieldLink "DealtSecret" (58 : Nat) "DealtSecret" "n" "I") ∈ AL := al_t1 110 rfl rfl
theorem k_108 : (Jvm.Cond.fieldLink "DealtSecret" (61 : Nat) "DealtSecret" "t" "I") ∈ AL := al_t1 111 rfl rfl
theorem k_109 : (Jvm.Cond.fieldLink "DealtSecret" (64 : Nat) "DealtSecret" "blind" "Z") ∈ AL := al_t1 112 rfl rfl
theorem k_110 : (Jvm.Cond.fieldLink "DealtSecret" (77 : Nat) "DealtSecret" "related" "Z") ∈ AL := al_t1 113 rfl rfl
theorem k_111 : (Jvm.Cond.fieldLink "DealtSecret" (183 : Nat) "DealtSecret" "relation" "I") ∈ AL := al_t1 114 rfl rfl
theorem k_112 : (Jvm.Cond.laysFinal "DealtSecret" "DealtSecret" "group" "LDealtSecret$Group;") ∈ AL := al_t1 115 rfl rfl
theorem k_113 : (Jvm.Cond.soleField "DealtSecret" "group") ∈ AL := al_t1 116 rfl rfl
theorem k_114 : (Jvm.Cond.laysFinal "DealtSecret" "DealtSecret" "a" "[I") ∈ AL := al_t1 117 rfl rfl
theorem k_115 : (Jvm.Cond.soleField "DealtSecret" "a") ∈ AL := al_t1 118 rfl rfl
theorem k_116 : (Jvm.Cond.laysFinal "DealtSecret" "DealtSecret" "b" "[I") ∈ AL := al_t1 119 rfl rfl
theorem k_117 : (Jvm.Cond.soleField "DealtSecret" "b") ∈ AL := al_t1 120 rfl rfl
theorem k_118 : (Jvm.Cond.laysFinal "DealtSecret" "DealtSecret" "published" "[I") ∈ AL := al_t1 121 rfl rfl
theorem k_119 : (Jvm.Cond.soleField "DealtSecret" "published") ∈ AL := al_t1 122 rfl rfl
theorem k_120 : (Jvm.Cond.laysFinal "DealtSecret" "DealtSecret" "participants" "[LDealtSecret$Participant;") ∈ AL := al_t1 123 rfl rfl
theorem k_121 : (Jvm.Cond.soleField "DealtSecret" "participants") ∈ AL := al_t1 124 rfl rfl
theorem k_122 : (Jvm.Cond.lays "DealtSecret" "DealtSecret" "stage" "I") ∈ AL := al_t1 125 rfl rfl
theorem k_123 : (Jvm.Cond.soleField "DealtSecret" "stage") ∈ AL := al_t1 126 rfl rfl
theorem k_124 : (Jvm.Cond.lays "DealtSecret" "DealtSecret" "n" "I") ∈ AL := al_t1 127 rfl rfl
theorem k_125 : (Jvm.Cond.soleField "DealtSecret" "n") ∈ AL := al_t1 128 rfl rfl
theorem k_126 : (Jvm.Cond.lays "DealtSecret" "DealtSecret" "t" "I") ∈ AL := al_t1 129 rfl rfl
theorem k_127 : (Jvm.Cond.soleField "DealtSecret" "t") ∈ AL := al_t1 130 rfl rfl
theorem k_128 : (Jvm.Cond.lays "DealtSecret" "DealtSecret" "blind" "Z") ∈ AL := al_t1 131 rfl rfl
theorem k_129 : (Jvm.Cond.soleField "DealtSecret" "blind") ∈ AL := al_t1 132 rfl rfl
theorem k_130 : (Jvm.Cond.lays "DealtSecret" "DealtSecret" "related" "Z") ∈ AL := al_t1 133 rfl rfl
theorem k_131 : (Jvm.Cond.soleField "DealtSecret" "related") ∈ AL := al_t1 134 rfl rfl
theorem k_132 : (Jvm.Cond.lays "DealtSecret" "DealtSecret" "relation" "I") ∈ AL := al_t1 135 rfl rfl
theorem k_133 : (Jvm.Cond.soleField "DealtSecret" "relation") ∈ AL := al_t1 136 rfl rfl
theorem k_134 : (Jvm.Cond.methodLink "DealtSecretLaw" (69 : Nat) ({ cls := "DealtSecret", name := "group", desc := "(I)I" } : Jvm.MethodName)) ∈ AL := al_t1 138 rfl rfl
theorem k_135 : (Jvm.Cond.instanceMethod ({ cls := "DealtSecret", name := "group", desc := "(I)I" } : Jvm.MethodName)) ∈ AL := al_t1 139 rfl rfl
theorem k_136 : (Jvm.Cond.selects "DealtSecret" ({ cls := "DealtSecret", name := "group", desc := "(I)I" } : Jvm.MethodName) ({ cls := "DealtSecret", name := "group", desc := "(I)I" } : Jvm.MethodName)) ∈ AL := al_t1 140 rfl rfl
theorem k_137 : (Jvm.Cond.code ({ cls := "DealtSecret", name := "group", desc := "(I)I" } : Jvm.MethodName) prog_1_method_2_code (2 : Nat) (Option.some Jvm.ClassFile.FieldType.int)) ∈ AL := al_t1 141 rfl rfl
theorem k_138 : (Jvm.Cond.methodLink "DealtSecretLaw" (119 : Nat) ({ cls := "DealtSecret", name := "stage", desc := "()I" } : Jvm.MethodName)) ∈ AL := al_t1 142 rfl rfl
theorem k_139 : (Jvm.Cond.instanceMethod ({ cls := "DealtSecret", name := "stage", desc := "()I" } : Jvm.MethodName)) ∈ AL := al_t1 143 rfl rfl
theorem k_140 : (Jvm.Cond.selects "DealtSecret" ({ cls := "DealtSecret", name := "stage", desc := "()I" } : Jvm.MethodName) ({ cls := "DealtSecret", name := "stage", desc := "()I" } : Jvm.MethodName)) ∈ AL := al_t1 144 rfl rfl
theorem k_141 : (Jvm.Cond.code ({ cls := "DealtSecret", name := "stage", desc := "()I" } : Jvm.MethodName) prog_1_method_15_code (1 : Nat) (Option.some Jvm.ClassFile.FieldType.int)) ∈ AL := al_t1 145 rfl rfl
theorem k_142 : (Jvm.Cond.methodLink "DealtSecretLaw" (123 : Nat) ({ cls := "DealtSecret", name := "commitment", desc := "(I)I" } : Jvm.MethodName)) ∈ AL := al_t1 146 rfl rfl
theorem k_143 : (Jvm.Cond.instanceMethod ({ cls := "DealtSecret", name := "commitment", desc := "(I)I" } : Jvm.MethodName)) ∈ AL := al_t1 147 rfl rfl
theorem k_144 : (Jvm.Cond.selects "DealtSecret" ({ cls := "DealtSecret", name := "commitment", desc := "(I)I" } : Jvm.MethodName) ({ cls := "DealtSecret", name := "commitment", desc := "(I)I" } : Jvm.MethodName)) ∈ AL := al_t1 148 rfl rfl
theorem k_145 : (Jvm.Cond.code ({ cls := "DealtSecret", name := "commitment", desc := "(I)I" } : Jvm.MethodName) prog_1_method_16_code (2 : Nat) (Option.some Jvm.ClassFile.FieldType.int)) ∈ AL := al_t1 149 rfl rfl
theorem k_146 : (Jvm.Cond.methodLink "DealtSecret" (186 : Nat) ({ cls := "DealtSecret", name := "isDealt", desc := "()Z" } : Jvm.MethodName)) ∈ AL := al_t1 150 rfl rfl
theorem k_147 : (Jvm.Cond.instanceMethod ({ cls := "DealtSecret", name := "isDealt", desc := "()Z" } : Jvm.MethodName)) ∈ AL := al_t1 152 rfl rfl
theorem k_148 : (Jvm.Cond.code ({ cls := "DealtSecret", name := "isDealt", desc := "()Z" } : Jvm.MethodName) prog_1_method_26_code (1 : Nat) (Option.some Jvm.ClassFile.FieldType.boolean)) ∈ AL := al_t1 153 rfl rfl
theorem k_149 : (Jvm.Cond.methodLink "DealtSecret" (189 : Nat) ({ cls := "DealtSecret", name := "isCoefficient", desc := "(I)Z" } : Jvm.MethodName)) ∈ AL := al_t1 154 rfl rfl
theorem k_150 : (Jvm.Cond.instanceMethod ({ cls := "DealtSecret", name := "isCoefficient", desc := "(I)Z" } : Jvm.MethodName)) ∈ AL := al_t1 156 rfl rfl
theorem k_151 : (Jvm.Cond.code ({ cls := "DealtSecret", name := "isCoefficient", desc := "(I)Z" } : Jvm.MethodName) prog_1_method_25_code (2 : Nat) (Option.some Jvm.ClassFile.FieldType.boolean)) ∈ AL := al_t1 157 rfl rfl
theorem k_152 : (Jvm.Cond.methodLink "DealtSecretLaw" (127 : Nat) ({ cls := "DealtSecret", name := "share", desc := "(II)I" } : Jvm.MethodName)) ∈ AL := al_t1 158 rfl rfl
theorem k_153 : (Jvm.Cond.instanceMethod ({ cls := "DealtSecret", name := "share", desc := "(II)I" } : Jvm.MethodName)) ∈ AL := al_t1 159 rfl rfl
theorem k_154 : (Jvm.Cond.selects "DealtSecret" ({ cls := "DealtSecret", name := "share", desc := "(II)I" } : Jvm.MethodName) ({ cls := "DealtSecret", name := "share", desc := "(II)I" } : Jvm.MethodName)) ∈ AL := al_t1 160 rfl rfl
theorem k_155 : (Jvm.Cond.code ({ cls := "DealtSecret", name := "share", desc := "(II)I" } : Jvm.MethodName) prog_1_method_17_code (3 : Nat) (Option.some Jvm.ClassFile.FieldType.int)) ∈ AL := al_t1 161 rfl rfl
theorem k_156 : (Jvm.Cond.methodLink "DealtSecret" (193 : Nat) ({ cls := "DealtSecret", name := "isParticipant", desc := "(I)Z" } : Jvm.MethodName)) ∈ AL := al_t1 162 rfl rfl
theorem k_157 : (Jvm.Cond.instanceMethod ({ cls := "DealtSecret", name := "isParticipant", desc := "(I)Z" } : Jvm.MethodName)) ∈ AL := al_t1 164 rfl rfl
theorem k_158 : (Jvm.Cond.code ({ cls := "DealtSecret", name := "isParticipant", desc := "(I)Z" } : Jvm.MethodName) prog_1_method_24_code (2 : Nat) (Option.some Jvm.ClassFile.FieldType.boolean)) ∈ AL := al_t1 165 rfl rfl
theorem k_159 : (Jvm.Cond.methodLink "DealtSecretLaw" (132 : Nat) ({ cls := "DealtSecret", name := "fits", desc := "(I)Z" } : Jvm.MethodName)) ∈ AL := al_t1 166 rfl rfl
theorem k_160 : (Jvm.Cond.instanceMethod ({ cls := "DealtSecret", name := "fits", desc := "(I)Z" } : Jvm.MethodName)) ∈ AL := al_t1 167 rfl rfl
theorem k_161 : (Jvm.Cond.selects "DealtSecret" ({ cls := "DealtSecret", name := "fits", desc := "(I)Z" } : Jvm.MethodName) ({ cls := "DealtSecret", name := "fits", desc := "(I)Z" } : Jvm.MethodName)) ∈ AL := al_t1 168 rfl rfl
theorem k_162 : (Jvm.Cond.code ({ cls := "DealtSecret", name := "fits", desc := "(I)Z" } : Jvm.MethodName) prog_1_method_18_code (2 : Nat) (Option.some Jvm.ClassFile.FieldType.boolean)) ∈ AL := al_t1 169 rfl rfl
theorem k_163 : (Jvm.Cond.methodLink "DealtSecret" (140 : Nat) ({ cls := "DealtSecret", name := "isShareRight", desc := "(LDealtSecret$Participant;)Z" } : Jvm.MethodName)) ∈ AL := al_t1 170 rfl rfl
theorem k_164 : (Jvm.Cond.instanceMethod ({ cls := "DealtSecret", name := "isShareRight", desc := "(LDealtSecret$Participant;)Z" } : Jvm.MethodName)) ∈ AL := al_t1 172 rfl rfl
theorem k_165 : (Jvm.Cond.code ({ cls := "DealtSecret", name := "isShareRight", desc := "(LDealtSecret$Participant;)Z" } : Jvm.MethodName) prog_1_method_33_code (2 : Nat) (Option.some Jvm.ClassFile.FieldType.boolean)) ∈ AL := al_t1 173 rfl rfl
theorem k_166 : (Jvm.Cond.methodLink "DealtSecret" (207 : Nat) ({ cls := "DealtSecret", name := "isPairRight", desc := "(LDealtSecret$Participant;II)Z" } : Jvm.MethodName)) ∈ AL := al_t1 174 rfl rfl
theorem k_167 : (Jvm.Cond.instanceMethod ({ cls := "DealtSecret", name := "isPairRight", desc := "(LDealtSecret$Participant;II)Z" } : Jvm.MethodName)) ∈ AL := al_t1 176 rfl rfl
theorem k_168 : (Jvm.Cond.code ({ cls := "DealtSecret", name := "isPairRight", desc := "(LDealtSecret$Participant;II)Z" } : Jvm.MethodName) prog_1_method_34_code (4 : Nat) (Option.some Jvm.ClassFile.FieldType.boolean)) ∈ AL := al_t1 177 rfl rfl
theorem k_169 : (Jvm.Cond.methodLink "DealtSecret" (200 : Nat) ({ cls := "DealtSecret$Group", name := "commit", desc := "(II)I" } : Jvm.MethodName)) ∈ AL := al_t1 178 rfl rfl
theorem k_170 : (Jvm.Cond.instanceMethod ({ cls := "DealtSecret$Group", name := "commit", desc := "(II)I" } : Jvm.MethodName)) ∈ AL := al_t1 179 rfl rfl
theorem k_171 : (Jvm.Cond.selects "DealtSecret$Group" ({ cls := "DealtSecret$Group", name := "commit", desc := "(II)I" } : Jvm.MethodName) ({ cls := "DealtSecret$Group", name := "commit", desc := "(II)I" } : Jvm.MethodName)) ∈ AL := al_t1 180 rfl rfl
theorem k_172 : (Jvm.Cond.code ({ cls := "DealtSecret$Group", name := "commit", desc := "(II)I" } : Jvm.MethodName) prog_2_method_7_code (3 : Nat) (Option.some Jvm.ClassFile.FieldType.int)) ∈ AL := al_t1 181 rfl rfl
theorem k_173 : (Jvm.Cond.methodLink "DealtSecret$Group" (41 : Nat) ({ cls := "DealtSecret$Group", name := "power", desc := "(II)I" } : Jvm.MethodName)) ∈ AL := al_t1 182 rfl rfl
theorem k_174 : (Jvm.Cond.instanceMethod ({ cls := "DealtSecret$Group", name := "power", desc := "(II)I" } : Jvm.MethodName)) ∈ AL := al_t1 183 rfl rfl
theorem k_175 : (Jvm.Cond.selects "DealtSecret$Group" ({ cls := "DealtSecret$Group", name := "power", desc := "(II)I" } : Jvm.MethodName) ({ cls := "DealtSecret$Group", name := "power", desc := "(II)I" } : Jvm.MethodName)) ∈ AL := al_t1 184 rfl rfl
theorem k_176 : (Jvm.Cond.code ({ cls := "DealtSecret$Group", name := "power", desc := "(II)I" } : Jvm.MethodName) prog_2_method_8_code (3 : Nat) (Option.some Jvm.ClassFile.FieldType.int)) ∈ AL := al_t1 185 rfl rfl
theorem k_177 : (Jvm.Cond.methodLink "DealtSecret$Group" (45 : Nat) ({ cls := "DealtSecret$Group", name := "product", desc := "(II)I" } : Jvm.MethodName)) ∈ AL := al_t1 186 rfl rfl
theorem k_178 : (Jvm.Cond.instanceMethod ({ cls := "DealtSecret$Group", name := "product", desc := "(II)I" } : Jvm.MethodName)) ∈ AL := al_t1 187 rfl rfl
theorem k_179 : (Jvm.Cond.selects "DealtSecret$Group" ({ cls := "DealtSecret$Group", name := "product", desc := "(II)I" } : Jvm.MethodName) ({ cls := "DealtSecret$Group", name := "product", desc := "(II)I" } : Jvm.MethodName)) ∈ AL := al_t1 188 rfl rfl
theorem k_180 : (Jvm.Cond.code ({ cls := "DealtSecret$Group", name := "product", desc := "(II)I" } : Jvm.MethodName) prog_2_method_9_code (3 : Nat) (Option.some Jvm.ClassFile.FieldType.int)) ∈ AL := al_t1 189 rfl rfl
theorem k_181 : (Jvm.Cond.methodLink "DealtSecret" (212 : Nat) ({ cls := "DealtSecret", name := "publishedAt", desc := "(I)I" } : Jvm.MethodName)) ∈ AL := al_t1 190 rfl rfl
theorem k_182 : (Jvm.Cond.instanceMethod ({ cls := "DealtSecret", name := "publishedAt", desc := "(I)I" } : Jvm.MethodName)) ∈ AL := al_t1 192 rfl rfl
theorem k_183 : (Jvm.Cond.code ({ cls := "DealtSecret", name := "publishedAt", desc := "(I)I" } : Jvm.MethodName) prog_1_method_35_code (4 : Nat) (Option.some Jvm.ClassFile.FieldType.int)) ∈ AL := al_t1 193 rfl rfl
theorem k_184 : (Jvm.Cond.methodLink "DealtSecret" (215 : Nat) ({ cls := "DealtSecret$Group", name := "power", desc := "(II)I" } : Jvm.MethodName)) ∈ AL := al_t1 194 rfl rfl
theorem k_185 : (Jvm.Cond.methodLink "DealtSecret" (218 : Nat) ({ cls := "DealtSecret$Group", name := "product", desc := "(II)I" } : Jvm.MethodName)) ∈ AL := al_t1 195 rfl rfl
theorem k_186 : (Jvm.Cond.methodLink "DealtSecretLaw" (136 : Nat) ({ cls := "DealtSecret", name := "complaints", desc := "()I" } : Jvm.MethodName)) ∈ AL := al_t1 196 rfl rfl
theorem k_187 : (Jvm.Cond.instanceMethod ({ cls := "DealtSecret", name := "complaints", desc := "()I" } : Jvm.MethodName)) ∈ AL := al_t1 197 rfl rfl
theorem k_188 : (Jvm.Cond.selects "DealtSecret" ({ cls := "DealtSecret", name := "complaints", desc := "()I" } : Jvm.MethodName) ({ cls := "DealtSecret", name := "complaints", desc := "()I" } : Jvm.MethodName)) ∈ AL := al_t1 198 rfl rfl
theorem k_189 : (Jvm.Cond.code ({ cls := "DealtSecret", name := "complaints", desc := "()I" } : Jvm.MethodName) prog_1_method_19_code (3 : Nat) (Option.some Jvm.ClassFile.FieldType.int)) ∈ AL := al_t1 199 rfl rfl
theorem k_190 : (Jvm.Cond.methodLink "DealtSecretLaw" (140 : Nat) ({ cls := "DealtSecret", name := "opened", desc := "()I" } : Jvm.MethodName)) ∈ AL := al_t1 200 rfl rfl
theorem k_191 : (Jvm.Cond.instanceMethod ({ cls := "DealtSecret", name := "opened", desc := "()I" } : Jvm.MethodName)) ∈ AL := al_t1 201 rfl rfl
theorem k_192 : (Jvm.Cond.selects "DealtSecret" ({ cls := "DealtSecret", name := "opened", desc := "()I" } : Jvm.MethodName) ({ cls := "DealtSecret", name := "opened", desc := "()I" } : Jvm.MethodName)) ∈ AL := al_t1 202 rfl rfl
theorem k_193 : (Jvm.Cond.code ({ cls := "DealtSecret", name := "opened", desc := "()I" } : Jvm.MethodName) prog_1_method_20_code (3 : Nat) (Option.some Jvm.ClassFile.FieldType.int)) ∈ AL := al_t1 203 rfl rfl
theorem k_194 : (Jvm.Cond.methodLink "DealtSecretLaw" (57 : Nat) ({ cls := "DealtSecretLaw", name := "cell", desc := "([II)I" } : Jvm.MethodName)) ∈ AL := al_t1 204 rfl rfl
theorem k_195 : (Jvm.Cond.static ({ cls := "DealtSecretLaw", name := "cell", desc := "([II)I" } : Jvm.MethodName)) ∈ AL := al_t1 205 rfl rfl
theorem k_196 : (Jvm.Cond.code ({ cls := "DealtSecretLaw", name := "cell", desc := "([II)I" } : Jvm.MethodName) method_2_code (2 : Nat) (Option.some Jvm.ClassFile.FieldType.int)) ∈ AL := al_t1 206 rfl rfl
theorem k_197 : (Jvm.Cond.methodLink "DealtSecretLaw" (74 : Nat) ({ cls := "DealtSecretLaw", name := "begin", desc := "(LDealtSecret;IIZ)I" } : Jvm.MethodName)) ∈ AL := al_t1 207 rfl rfl
theorem k_198 : (Jvm.Cond.static ({ cls := "DealtSecretLaw", name := "begin", desc := "(LDealtSecret;IIZ)I" } : Jvm.MethodName)) ∈ AL := al_t1 208 rfl rfl
theorem k_199 : (Jvm.Cond.classLink "DealtSecretLaw" (13 : Nat) "java/lang/IllegalArgumentException") ∈ AL := al_t1 210 rfl rfl
theorem k_200 : (Jvm.Cond.methodLink "DealtSecretLaw" (7 : Nat) ({ cls := "DealtSecret", name := "begin", desc := "(IIZ)V" } : Jvm.MethodName)) ∈ AL := al_t1 211 rfl rfl
theorem k_201 : (Jvm.Cond.instanceMethod ({ cls := "DealtSecret", name := "begin", desc := "(IIZ)V" } : Jvm.MethodName)) ∈ AL := al_t1 212 rfl rfl
theorem k_202 : (Jvm.Cond.selects "DealtSecret" ({ cls := "DealtSecret", name := "begin", desc := "(IIZ)V" } : Jvm.MethodName) ({ cls := "DealtSecret", name := "begin", desc := "(IIZ)V" } : Jvm.MethodName)) ∈ AL := al_t1 213 rfl rfl
theorem k_203 : (Jvm.Cond.code ({ cls := "DealtSecret", name := "begin", desc := "(IIZ)V" } : Jvm.MethodName) prog_1_method_3_code (5 : Nat) (Option.none : Option Jvm.ClassFile.FieldType)) ∈ AL := al_t1 214 rfl rfl
theorem k_204 : (Jvm.Cond.classLink "DealtSecret" (51 : Nat) "java/lang/IllegalArgumentException") ∈ AL := al_t1 215 rfl rfl
theorem k_205 : (Jvm.Cond.instantiable "java/lang/IllegalArgumentException" (6 : Nat)) ∈ AL := al_t1 216 rfl rfl
theorem k_206 : (Jvm.Cond.selects "java/lang/IllegalArgumentException" ({ cls := "java/lang/Throwable", name := "fillInStackTrace", desc := "(I)Ljava/lang/Throwable;" } : Jvm.MethodName) ({ cls := "java/lang/Throwable", name := "fillInStackTrace", desc := "(I)Ljava/lang/Throwable;" } : Jvm.MethodName)) ∈ AL := al_t1 224 rfl rfl
theorem k_207 : (Jvm.Cond.selects "java/lang/IllegalArgumentException" ({ cls := "java/lang/Throwable", name := "fillInStackTrace", desc := "()Ljava/lang/Throwable;" } : Jvm.MethodName) ({ cls := "java/lang/Throwable", name := "fillInStackTrace", desc := "()Ljava/lang/Throwable;" } : Jvm.MethodName)) ∈ AL := al_t1 225 rfl rfl
theorem k_208 : (Jvm.Cond.lays "java/lang/IllegalArgumentException" "java/lang/Throwable" "cause" "Ljava/lang/Throwable;") ∈ AL := al_t1 226 rfl rfl
theorem k_209 : (Jvm.Cond.lays "java/lang/Throwable" "java/lang/Throwable" "cause" "Ljava/lang/Throwable;") ∈ AL := al_t1 227 rfl rfl
theorem k_210 : (Jvm.Cond.lays "java/lang/IllegalArgumentException" "java/lang/Throwable" "stackTrace" "[Ljava/lang/StackTraceElement;") ∈ AL := al_t1 228 rfl rfl
theorem k_211 : (Jvm.Cond.lays "java/lang/Throwable" "java/lang/Throwable" "stackTrace" "[Ljava/lang/StackTraceElement;") ∈ AL := al_t1 229 rfl rfl
theorem k_212 : (Jvm.Cond.lays "java/lang/IllegalArgumentException" "java/lang/Throwable" "suppressedExceptions" "Ljava/util/List;") ∈ AL := al_t1 230 rfl rfl
theorem k_213 : (Jvm.Cond.lays "java/lang/Throwable" "java/lang/Throwable" "suppressedExceptions" "Ljava/util/List;") ∈ AL := al_t1 231 rfl rfl
theorem k_214 : (Jvm.Cond.lays "java/lang/IllegalArgumentException" "java/lang/Throwable" "detailMessage" "Ljava/lang/String;") ∈ AL := al_t1 232 rfl rfl
theorem k_215 : (Jvm.Cond.lays "java/lang/Throwable" "java/lang/Throwable" "detailMessage" "Ljava/lang/String;") ∈ AL := al_t1 233 rfl rfl
theorem k_216 : (Jvm.Cond.lays "java/lang/IllegalArgumentException" "java/lang/Throwable" "backtrace" "Ljava/lang/Object;") ∈ AL := al_t1 234 rfl rfl
theorem k_217 : (Jvm.Cond.lays "java/lang/Throwable" "java/lang/Throwable" "backtrace" "Ljava/lang/Object;") ∈ AL := al_t1 235 rfl rfl
theorem k_218 : (Jvm.Cond.fieldLink "java/lang/Throwable" (198 : Nat) "java/lang/Throwable" "backtrace" "Ljava/lang/Object;") ∈ AL := al_t1 236 rfl rfl
theorem k_219 : (Jvm.Cond.instanceMethod ({ cls := "java/lang/Throwable", name := "<init>", desc := "()V" } : Jvm.MethodName)) ∈ AL := al_t1 238 rfl rfl
theorem k_220 : (Jvm.Cond.code ({ cls := "java/lang/Throwable", name := "<init>", desc := "()V" } : Jvm.MethodName) prog_12_method_1_code (1 : Nat) (Option.none : Option Jvm.ClassFile.FieldType)) ∈ AL := al_t1 239 rfl rfl
theorem k_221 : (Jvm.Cond.methodLink "java/lang/Throwable" (1 : Nat) ({ cls := "java/lang/Object", name := "<init>", desc := "()V" } : Jvm.MethodName)) ∈ AL := al_t2 0 rfl rfl
theorem k_222 : (Jvm.Cond.fieldLink "java/lang/Throwable" (13 : Nat) "java/lang/Throwable" "UNASSIGNED_STACK" "[Ljava/lang/StackTraceElement;") ∈ AL := al_t2 1 rfl rfl
theorem k_223 : (Jvm.Cond.fieldLink "java/lang/Throwable" (20 : Nat) "java/lang/Throwable" "SUPPRESSED_SENTINEL" "Ljava/util/List;") ∈ AL := al_t2 3 rfl rfl
theorem k_224 : (Jvm.Cond.methodLink "java/lang/Throwable" (27 : Nat) ({ cls := "java/lang/Throwable", name := "fillInStackTrace", desc := "()Ljava/lang/Throwable;" } : Jvm.MethodName)) ∈ AL := al_t2 5 rfl rfl
theorem k_225 : (Jvm.Cond.instanceMethod ({ cls := "java/lang/Throwable", name := "fillInStackTrace", desc := "()Ljava/lang/Throwable;" } : Jvm.MethodName)) ∈ AL := al_t2 6 rfl rfl
theorem k_226 : (Jvm.Cond.selects "java/lang/IllegalStateException" ({ cls := "java/lang/Throwable", name := "fillInStackTrace", desc := "()Ljava/lang/Throwable;" } : Jvm.MethodName) ({ cls := "java/lang/Throwable", name := "fillInStackTrace", desc := "()Ljava/lang/Throwable;" } : Jvm.MethodName)) ∈ AL := al_t2 8 rfl rfl
theorem k_227 : (Jvm.Cond.selects "java/util/NoSuchElementException" ({ cls := "java/lang/Throwable", name := "fillInStackTrace", desc := "()Ljava/lang/Throwable;" } : Jvm.MethodName) ({ cls := "java/lang/Throwable", name := "fillInStackTrace", desc := "()Ljava/lang/Throwable;" } : Jvm.MethodName)) ∈ AL := al_t2 9 rfl rfl
theorem k_228 : (Jvm.Cond.methodLink "java/lang/Throwable" (202 : Nat) ({ cls := "java/lang/Throwable", name := "fillInStackTrace", desc := "(I)Ljava/lang/Throwable;" } : Jvm.MethodName)) ∈ AL := al_t2 11 rfl rfl
theorem k_229 : (Jvm.Cond.instanceMethod ({ cls := "java/lang/Throwable", name := "fillInStackTrace", desc := "(I)Ljava/lang/Throwable;" } : Jvm.MethodName)) ∈ AL := al_t2 13 rfl rfl
theorem k_230 : (Jvm.Cond.instantiable "java/lang/Throwable" (6 : Nat)) ∈ AL := al_t2 14 rfl rfl
theorem k_231 : (Jvm.Cond.methodLink "DealtSecret" (55 : Nat) ({ cls := "java/lang/IllegalArgumentException", name := "<init>", desc := "(Ljava/lang/String;)V" } : Jvm.MethodName)) ∈ AL := al_t2 17 rfl rfl
theorem k_232 : (Jvm.Cond.instanceMethod ({ cls := "java/lang/IllegalArgumentException", name := "<init>", desc := "(Ljava/lang/String;)V" } : Jvm.MethodName)) ∈ AL := al_t2 18 rfl rfl
theorem k_233 : (Jvm.Cond.code ({ cls := "java/lang/IllegalArgumentException", name := "<init>", desc := "(Ljava/lang/String;)V" } : Jvm.MethodName) prog_7_method_2_code (2 : Nat) (Option.none : Option Jvm.ClassFile.FieldType)) ∈ AL := al_t2 19 rfl rfl
theorem k_234 : (Jvm.Cond.methodLink "java/lang/IllegalArgumentException" (7 : Nat) ({ cls := "java/lang/RuntimeException", name := "<init>", desc := "(Ljava/lang/String;)V" } : Jvm.MethodName)) ∈ AL := al_t2 20 rfl rfl
theorem k_235 : (Jvm.Cond.instanceMethod ({ cls := "java/lang/RuntimeException", name := "<init>", desc := "(Ljava/lang/String;)V" } : Jvm.MethodName)) ∈ AL := al_t2 21 rfl rfl
theorem k_236 : (Jvm.Cond.code ({ cls := "java/lang/RuntimeException", name := "<init>", desc := "(Ljava/lang/String;)V" } : Jvm.MethodName) prog_10_method_2_code (2 : Nat) (Option.none : Option Jvm.ClassFile.FieldType)) ∈ AL := al_t2 22 rfl rfl
theorem k_237 : (Jvm.Cond.methodLink "java/lang/RuntimeException" (7 : Nat) ({ cls := "java/lang/Exception", name := "<init>", desc := "(Ljava/lang/String;)V" } : Jvm.MethodName)) ∈ AL := al_t2 23 rfl rfl
theorem k_238 : (Jvm.Cond.instanceMethod ({ cls := "java/lang/Exception", name := "<init>", desc := "(Ljava/lang/String;)V" } : Jvm.MethodName)) ∈ AL := al_t2 24 rfl rfl
theorem k_239 : (Jvm.Cond.code ({ cls := "java/lang/Exception", name := "<init>", desc := "(Ljava/lang/String;)V" } : Jvm.MethodName) prog_6_method_2_code (2 : Nat) (Option.none : Option Jvm.ClassFile.FieldType)) ∈ AL := al_t2 25 rfl rfl
theorem k_240 : (Jvm.Cond.methodLink "java/lang/Exception" (7 : Nat) ({ cls := "java/lang/Throwable", name := "<init>", desc := "(Ljava/lang/String;)V" } : Jvm.MethodName)) ∈ AL := al_t2 26 rfl rfl
theorem k_241 : (Jvm.Cond.instanceMethod ({ cls := "java/lang/Throwable", name := "<init>", desc := "(Ljava/lang/String;)V" } : Jvm.MethodName)) ∈ AL := al_t2 27 rfl rfl
theorem k_242 : (Jvm.Cond.code ({ cls := "java/lang/Throwable", name := "<init>", desc := "(Ljava/lang/String;)V" } : Jvm.MethodName) prog_12_method_2_code (2 : Nat) (Option.none : Option Jvm.ClassFile.FieldType)) ∈ AL := al_t2 28 rfl rfl
theorem k_243 : (Jvm.Cond.fieldLink "java/lang/Throwable" (31 : Nat) "java/lang/Throwable" "detailMessage" "Ljava/lang/String;") ∈ AL := al_t2 30 rfl rfl
theorem k_244 : (Jvm.Cond.fieldLink "java/lang/Throwable" (7 : Nat) "java/lang/Throwable" "cause" "Ljava/lang/Throwable;") ∈ AL := al_t2 31 rfl rfl
theorem k_245 : (Jvm.Cond.fieldLink "java/lang/Throwable" (17 : Nat) "java/lang/Throwable" "stackTrace" "[Ljava/lang/StackTraceElement;") ∈ AL := al_t2 32 rfl rfl
theorem k_246 : (Jvm.Cond.fieldLink "java/lang/Throwable" (24 : Nat) "java/lang/Throwable" "suppressedExceptions" "Ljava/util/List;") ∈ AL := al_t2 33 rfl rfl
theorem k_247 : (Jvm.Cond.soleField "java/lang/Throwable" "backtrace") ∈ AL := al_t2 34 rfl rfl
theorem k_248 : (Jvm.Cond.soleField "java/lang/Throwable" "detailMessage") ∈ AL := al_t2 35 rfl rfl
theorem k_249 : (Jvm.Cond.soleField "java/lang/Throwable" "cause") ∈ AL := al_t2 36 rfl rfl
theorem k_250 : (Jvm.Cond.soleField "java/lang/Throwable" "stackTrace") ∈ AL := al_t2 37 rfl rfl
theorem k_251 : (Jvm.Cond.lays "java/lang/IllegalArgumentException" "java/lang/Throwable" "depth" "I") ∈ AL := al_t2 38 rfl rfl
theorem k_252 : (Jvm.Cond.soleField "java/lang/Throwable" "depth") ∈ AL := al_t2 39 rfl rfl
theorem k_253 : (Jvm.Cond.soleField "java/lang/Throwable" "suppressedExceptions") ∈ AL := al_t2 40 rfl rfl
theorem k_254 : (Jvm.Cond.arrayClass Jvm.ClassFile.FieldType.byte) ∈ AL := al_t2 42 rfl rfl
theorem k_255 : (Jvm.Cond.methodLink "DealtSecret" (68 : Nat) ({ cls := "java/util/Arrays", name := "fill", desc := "([II)V" } : Jvm.MethodName)) ∈ AL := al_t2 43 rfl rfl
theorem k_256 : (Jvm.Cond.static ({ cls := "java/util/Arrays", name := "fill", desc := "([II)V" } : Jvm.MethodName)) ∈ AL := al_t2 44 rfl rfl
theorem k_257 : (Jvm.Cond.code ({ cls := "java/util/Arrays", name := "fill", desc := "([II)V" } : Jvm.MethodName) prog_13_method_103_code (4 : Nat) (Option.none : Option Jvm.ClassFile.FieldType)) ∈ AL := al_t2 45 rfl rfl
theorem k_258 : (Jvm.Cond.methodLink "DealtSecret" (74 : Nat) ({ cls := "DealtSecret$Participant", name := "startAnew", desc := "()V" } : Jvm.MethodName)) ∈ AL := al_t2 46 rfl rfl
theorem k_259 : (Jvm.Cond.instanceMethod ({ cls := "DealtSecret$Participant", name := "startAnew", desc := "()V" } : Jvm.MethodName)) ∈ AL := al_t2 47 rfl rfl
theorem k_260 : (Jvm.Cond.selects "DealtSecret$Participant" ({ cls := "DealtSecret$Participant", name := "startAnew", desc := "()V" } : Jvm.MethodName) ({ cls := "DealtSecret$Participant", name := "startAnew", desc := "()V" } : Jvm.MethodName)) ∈ AL := al_t2 48 rfl rfl
theorem k_261 : (Jvm.Cond.code ({ cls := "DealtSecret$Participant", name := "startAnew", desc := "()V" } : Jvm.MethodName) prog_3_method_2_code (1 : Nat) (Option.none : Option Jvm.ClassFile.FieldType)) ∈ AL := al_t2 49 rfl rfl
theorem k_262 : (Jvm.Cond.methodLink "DealtSecretLaw" (81 : Nat) ({ cls := "DealtSecretLaw", name := "coefficient", desc := "(LDealtSecret;III)I" } : Jvm.MethodName)) ∈ AL := al_t2 50 rfl rfl
theorem k_263 : (Jvm.Cond.static ({ cls := "DealtSecretLaw", name := "coefficient", desc := "(LDealtSecret;III)I" } : Jvm.MethodName)) ∈ AL := al_t2 51 rfl rfl
theorem k_264 : (Jvm.Cond.classLink "DealtSecretLaw" (19 : Nat) "java/lang/IllegalStateException") ∈ AL := al_t2 53 rfl rfl
theorem k_265 : (Jvm.Cond.methodLink "DealtSecretLaw" (15 : Nat) ({ cls := "DealtSecret", name := "coefficient", desc := "(III)V" } : Jvm.MethodName)) ∈ AL := al_t2 54 rfl rfl
theorem k_266 : (Jvm.Cond.instanceMethod ({ cls := "DealtSecret", name := "coefficient", desc := "(III)V" } : Jvm.MethodName)) ∈ AL := al_t2 55 rfl rfl
theorem k_267 : (Jvm.Cond.selects "DealtSecret" ({ cls := "DealtSecret", name := "coefficient", desc := "(III)V" } : Jvm.MethodName) ({ cls := "DealtSecret", name := "coefficient", desc := "(III)V" } : Jvm.MethodName)) ∈ AL := al_t2 56 rfl rfl
theorem k_268 : (Jvm.Cond.code ({ cls := "DealtSecret", name := "coefficient", desc := "(III)V" } : Jvm.MethodName) prog_1_method_4_code (4 : Nat) (Option.none : Option Jvm.ClassFile.FieldType)) ∈ AL := al_t2 57 rfl rfl
theorem k_269 : (Jvm.Cond.methodLink "DealtSecret" (83 : Nat) ({ cls := "DealtSecret", name := "demandStage", desc := "(I)V" } : Jvm.MethodName)) ∈ AL := al_t2 58 rfl rfl
theorem k_270 : (Jvm.Cond.instanceMethod ({ cls := "DealtSecret", name := "demandStage", desc := "(I)V" } : Jvm.MethodName)) ∈ AL := al_t2 60 rfl rfl
theorem k_271 : (Jvm.Cond.code ({ cls := "DealtSecret", name := "demandStage", desc := "(I)V" } : Jvm.MethodName) prog_1_method_21_code (2 : Nat) (Option.none : Option Jvm.ClassFile.FieldType)) ∈ AL := al_t2 61 rfl rfl
theorem k_272 : (Jvm.Cond.classLink "DealtSecret" (113 : Nat) "java/lang/IllegalStateException") ∈ AL := al_t2 62 rfl rfl
theorem k_273 : (Jvm.Cond.instantiable "java/lang/IllegalStateException" (6 : Nat)) ∈ AL := al_t2 63 rfl rfl
theorem k_274 : (Jvm.Cond.selects "java/lang/IllegalStateException" ({ cls := "java/lang/Throwable", name := "fillInStackTrace", desc := "(I)Ljava/lang/Throwable;" } : Jvm.MethodName) ({ cls := "java/lang/Throwable", name := "fillInStackTrace", desc := "(I)Ljava/lang/Throwable;" } : Jvm.MethodName)) ∈ AL := al_t2 65 rfl rfl
theorem k_275 : (Jvm.Cond.lays "java/lang/IllegalStateException" "java/lang/Throwable" "cause" "Ljava/lang/Throwable;") ∈ AL := al_t2 66 rfl rfl
theorem k_276 : (Jvm.Cond.lays "java/lang/IllegalStateException" "java/lang/Throwable" "stackTrace" "[Ljava/lang/StackTraceElement;") ∈ AL := al_t2 67 rfl rfl
theorem k_277 : (Jvm.Cond.lays "java/lang/IllegalStateException" "java/lang/Throwable" "suppressedExceptions" "Ljava/util/List;") ∈ AL := al_t2 68 rfl rfl
theorem k_278 : (Jvm.Cond.lays "java/lang/IllegalStateException" "java/lang/Throwable" "detailMessage" "Ljava/lang/String;") ∈ AL := al_t2 69 rfl rfl
theorem k_279 : (Jvm.Cond.lays "java/lang/IllegalStateException" "java/lang/Throwable" "backtrace" "Ljava/lang/Object;") ∈ AL := al_t2 70 rfl rfl
theorem k_280 : (Jvm.Cond.methodLink "DealtSecret" (117 : Nat) ({ cls := "java/lang/IllegalStateException", name := "<init>", desc := "(Ljava/lang/String;)V" } : Jvm.MethodName)) ∈ AL := al_t2 72 rfl rfl
theorem k_281 : (Jvm.Cond.instanceMethod ({ cls := "java/lang/IllegalStateException", name := "<init>", desc := "(Ljava/lang/String;)V" } : Jvm.MethodName)) ∈ AL := al_t2 73 rfl rfl
theorem k_282 : (Jvm.Cond.code ({ cls := "java/lang/IllegalStateException", name := "<init>", desc := "(Ljava/lang/String;)V" } : Jvm.MethodName) prog_8_method_2_code (2 : Nat) (Option.none : Option Jvm.ClassFile.FieldType)) ∈ AL := al_t2 74 rfl rfl
theorem k_283 : (Jvm.Cond.methodLink "java/lang/IllegalStateException" (7 : Nat) ({ cls := "java/lang/RuntimeException", name := "<init>", desc := "(Ljava/lang/String;)V" } : Jvm.MethodName)) ∈ AL := al_t2 75 rfl rfl
theorem k_284 : (Jvm.Cond.lays "java/lang/IllegalStateException" "java/lang/Throwable" "depth" "I") ∈ AL := al_t2 76 rfl rfl
theorem k_285 : (Jvm.Cond.methodLink "DealtSecret" (86 : Nat) ({ cls := "DealtSecret", name := "demandCoefficient", desc := "(I)V" } : Jvm.MethodName)) ∈ AL := al_t2 78 rfl rfl
theorem k_286 : (Jvm.Cond.instanceMethod ({ cls := "DealtSecret", name := "demandCoefficient", desc := "(I)V" } : Jvm.MethodName)) ∈ AL := al_t2 80 rfl rfl
theorem k_287 : (Jvm.Cond.code ({ cls := "DealtSecret", name := "demandCoefficient", desc := "(I)V" } : Jvm.MethodName) prog_1_method_23_code (2 : Nat) (Option.none : Option Jvm.ClassFile.FieldType)) ∈ AL := al_t2 81 rfl rfl
theorem k_288 : (Jvm.Cond.methodLink "DealtSecret" (89 : Nat) ({ cls := "DealtSecret$Group", name := "number", desc := "(I)I" } : Jvm.MethodName)) ∈ AL := al_t2 83 rfl rfl
theorem k_289 : (Jvm.Cond.instanceMethod ({ cls := "DealtSecret$Group", name := "number", desc := "(I)I" } : Jvm.MethodName)) ∈ AL := al_t2 84 rfl rfl
theorem k_290 : (Jvm.Cond.selects "DealtSecret$Group" ({ cls := "DealtSecret$Group", name := "number", desc := "(I)I" } : Jvm.MethodName) ({ cls := "DealtSecret$Group", name := "number", desc := "(I)I" } : Jvm.MethodName)) ∈ AL := al_t2 85 rfl rfl
theorem k_291 : (Jvm.Cond.code ({ cls := "DealtSecret$Group", name := "number", desc := "(I)I" } : Jvm.MethodName) prog_2_method_10_code (2 : Nat) (Option.some Jvm.ClassFile.FieldType.int)) ∈ AL := al_t2 86 rfl rfl
theorem k_292 : (Jvm.Cond.methodLink "DealtSecret$Group" (48 : Nat) ({ cls := "java/lang/Math", name := "floorMod", desc := "(II)I" } : Jvm.MethodName)) ∈ AL := al_t2 87 rfl rfl
theorem k_293 : (Jvm.Cond.static ({ cls := "java/lang/Math", name := "floorMod", desc := "(II)I" } : Jvm.MethodName)) ∈ AL := al_t2 88 rfl rfl
theorem k_294 : (Jvm.Cond.code ({ cls := "java/lang/Math", name := "floorMod", desc := "(II)I" } : Jvm.MethodName) prog_9_method_50_code (3 : Nat) (Option.some Jvm.ClassFile.FieldType.int)) ∈ AL := al_t2 89 rfl rfl
theorem k_295 : (Jvm.Cond.methodLink "DealtSecret" (93 : Nat) ({ cls := "DealtSecret", name := "blindNumber", desc := "(I)I" } : Jvm.MethodName)) ∈ AL := al_t2 90 rfl rfl
theorem k_296 : (Jvm.Cond.instanceMethod ({ cls := "DealtSecret", name := "blindNumber", desc := "(I)I" } : Jvm.MethodName)) ∈ AL := al_t2 92 rfl rfl
theorem k_297 : (Jvm.Cond.code ({ cls := "DealtSecret", name := "blindNumber", desc := "(I)I" } : Jvm.MethodName) prog_1_method_27_code (2 : Nat) (Option.some Jvm.ClassFile.FieldType.int)) ∈ AL := al_t2 93 rfl rfl
theorem k_298 : (Jvm.Cond.methodLink "DealtSecretLaw" (85 : Nat) ({ cls := "DealtSecretLaw", name := "advance", desc := "(LDealtSecret;[J)I" } : Jvm.MethodName)) ∈ AL := al_t2 94 rfl rfl
theorem k_299 : (Jvm.Cond.static ({ cls := "DealtSecretLaw", name := "advance", desc := "(LDealtSecret;[J)I" } : Jvm.MethodName)) ∈ AL := al_t2 95 rfl rfl
theorem k_300 : (Jvm.Cond.methodLink "DealtSecretLaw" (21 : Nat) ({ cls := "DealtSecret", name := "advance", desc := "()I" } : Jvm.MethodName)) ∈ AL := al_t2 97 rfl rfl
theorem k_301 : (Jvm.Cond.instanceMethod ({ cls := "DealtSecret", name := "advance", desc := "()I" } : Jvm.MethodName)) ∈ AL := al_t2 98 rfl rfl
theorem k_302 : (Jvm.Cond.selects "DealtSecret" ({ cls := "DealtSecret", name := "advance", desc := "()I" } : Jvm.MethodName) ({ cls := "DealtSecret", name := "advance", desc := "()I" } : Jvm.MethodName)) ∈ AL := al_t2 99 rfl rfl
theorem k_303 : (Jvm.Cond.code ({ cls := "DealtSecret", name := "advance", desc := "()I" } : Jvm.MethodName) prog_1_method_5_code (1 : Nat) (Option.some Jvm.ClassFile.FieldType.int)) ∈ AL := al_t2 100 rfl rfl
theorem k_304 : (Jvm.Cond.methodLink "DealtSecret" (96 : Nat) ({ cls := "DealtSecret", name := "publishCommitments", desc := "()V" } : Jvm.MethodName)) ∈ AL := al_t2 101 rfl rfl
theorem k_305 : (Jvm.Cond.instanceMethod ({ cls := "DealtSecret", name := "publishCommitments", desc := "()V" } : Jvm.MethodName)) ∈ AL := al_t2 103 rfl rfl
theorem k_306 : (Jvm.Cond.code ({ cls := "DealtSecret", name := "publishCommitments", desc := "()V" } : Jvm.MethodName) prog_1_method_28_code (2 : Nat) (Option.none : Option Jvm.ClassFile.FieldType)) ∈ AL := al_t2 104 rfl rfl
theorem k_307 : (Jvm.Cond.methodLink "DealtSecret" (99 : Nat) ({ cls := "DealtSecret", name := "sendShares", desc := "()V" } : Jvm.MethodName)) ∈ AL := al_t2 105 rfl rfl
theorem k_308 : (Jvm.Cond.instanceMethod ({ cls := "DealtSecret", name := "sendShares", desc := "()V" } : Jvm.MethodName)) ∈ AL := al_t2 107 rfl rfl
theorem k_309 : (Jvm.Cond.code ({ cls := "DealtSecret", name := "sendShares", desc := "()V" } : Jvm.MethodName) prog_1_method_29_code (2 : Nat) (Option.none : Option Jvm.ClassFile.FieldType)) ∈ AL := al_t2 108 rfl rfl
theorem k_310 : (Jvm.Cond.methodLink "DealtSecret" (203 : Nat) ({ cls := "DealtSecret", name := "valueAt", desc := "(I[I)I" } : Jvm.MethodName)) ∈ AL := al_t2 109 rfl rfl
theorem k_311 : (Jvm.Cond.instanceMethod ({ cls := "DealtSecret", name := "valueAt", desc := "(I[I)I" } : Jvm.MethodName)) ∈ AL := al_t2 111 rfl rfl
theorem k_312 : (Jvm.Cond.code ({ cls := "DealtSecret", name := "valueAt", desc := "(I[I)I" } : Jvm.MethodName) prog_1_method_30_code (5 : Nat) (Option.some Jvm.ClassFile.FieldType.int)) ∈ AL := al_t2 112 rfl rfl
theorem k_313 : (Jvm.Cond.methodLink "DealtSecret" (175 : Nat) ({ cls := "DealtSecret$Group", name := "times", desc := "(II)I" } : Jvm.MethodName)) ∈ AL := al_t2 113 rfl rfl
theorem k_314 : (Jvm.Cond.instanceMethod ({ cls := "DealtSecret$Group", name := "times", desc := "(II)I" } : Jvm.MethodName)) ∈ AL := al_t2 114 rfl rfl
theorem k_315 : (Jvm.Cond.selects "DealtSecret$Group" ({ cls := "DealtSecret$Group", name := "times", desc := "(II)I" } : Jvm.MethodName) ({ cls := "DealtSecret$Group", name := "times", desc := "(II)I" } : Jvm.MethodName)) ∈ AL := al_t2 115 rfl rfl
theorem k_316 : (Jvm.Cond.code ({ cls := "DealtSecret$Group", name := "times", desc := "(II)I" } : Jvm.MethodName) prog_2_method_13_code (3 : Nat) (Option.some Jvm.ClassFile.FieldType.int)) ∈ AL := al_t2 116 rfl rfl
theorem k_317 : (Jvm.Cond.methodLink "DealtSecret" (178 : Nat) ({ cls := "DealtSecret$Group", name := "plus", desc := "(II)I" } : Jvm.MethodName)) ∈ AL := al_t2 117 rfl rfl
theorem k_318 : (Jvm.Cond.instanceMethod ({ cls := "DealtSecret$Group", name := "plus", desc := "(II)I" } : Jvm.MethodName)) ∈ AL := al_t2 118 rfl rfl
theorem k_319 : (Jvm.Cond.selects "DealtSecret$Group" ({ cls := "DealtSecret$Group", name := "plus", desc := "(II)I" } : Jvm.MethodName) ({ cls := "DealtSecret$Group", name := "plus", desc := "(II)I" } : Jvm.MethodName)) ∈ AL := al_t2 119 rfl rfl
theorem k_320 : (Jvm.Cond.code ({ cls := "DealtSecret$Group", name := "plus", desc := "(II)I" } : Jvm.MethodName) prog_2_method_11_code (3 : Nat) (Option.some Jvm.ClassFile.FieldType.int)) ∈ AL := al_t2 120 rfl rfl
theorem k_321 : (Jvm.Cond.methodLink "DealtSecret" (121 : Nat) ({ cls := "DealtSecret$Participant", name := "receive", desc := "(II)V" } : Jvm.MethodName)) ∈ AL := al_t2 121 rfl rfl
theorem k_322 : (Jvm.Cond.instanceMethod ({ cls := "DealtSecret$Participant", name := "receive", desc := "(II)V" } : Jvm.MethodName)) ∈ AL := al_t2 122 rfl rfl
theorem k_323 : (Jvm.Cond.selects "DealtSecret$Participant" ({ cls := "DealtSecret$Participant", name := "receive", desc := "(II)V" } : Jvm.MethodName) ({ cls := "DealtSecret$Participant", name := "receive", desc := "(II)V" } : Jvm.MethodName)) ∈ AL := al_t2 123 rfl rfl
theorem k_324 : (Jvm.Cond.code ({ cls := "DealtSecret$Participant", name := "receive", desc := "(II)V" } : Jvm.MethodName) prog_3_method_3_code (3 : Nat) (Option.none : Option Jvm.ClassFile.FieldType)) ∈ AL := al_t2 124 rfl rfl
theorem k_325 : (Jvm.Cond.methodLink "DealtSecret" (102 : Nat) ({ cls := "DealtSecret", name := "raiseComplaints", desc := "()V" } : Jvm.MethodName)) ∈ AL := al_t2 125 rfl rfl
theorem k_326 : (Jvm.Cond.instanceMethod ({ cls := "DealtSecret", name := "raiseComplaints", desc := "()V" } : Jvm.MethodName)) ∈ AL := al_t2 127 rfl rfl
theorem k_327 : (Jvm.Cond.code ({ cls := "DealtSecret", name := "raiseComplaints", desc := "()V" } : Jvm.MethodName) prog_1_method_31_code (3 : Nat) (Option.none : Option Jvm.ClassFile.FieldType)) ∈ AL := al_t2 128 rfl rfl
theorem k_328 : (Jvm.Cond.methodLink "DealtSecret" (105 : Nat) ({ cls := "DealtSecret", name := "complaints", desc := "()I" } : Jvm.MethodName)) ∈ AL := al_t2 129 rfl rfl
theorem k_329 : (Jvm.Cond.methodLink "DealtSecret" (109 : Nat) ({ cls := "DealtSecret", name := "isEveryComplaintAnswered", desc := "()Z" } : Jvm.MethodName)) ∈ AL := al_t2 130 rfl rfl
theorem k_330 : (Jvm.Cond.instanceMethod ({ cls := "DealtSecret", name := "isEveryComplaintAnswered", desc := "()Z" } : Jvm.MethodName)) ∈ AL := al_t2 132 rfl rfl
theorem k_331 : (Jvm.Cond.code ({ cls := "DealtSecret", name := "isEveryComplaintAnswered", desc := "()Z" } : Jvm.MethodName) prog_1_method_32_code (2 : Nat) (Option.some Jvm.ClassFile.FieldType.boolean)) ∈ AL := al_t2 133 rfl rfl
theorem k_332 : (Jvm.Cond.methodLink "DealtSecretLaw" (89 : Nat) ({ cls := "DealtSecretLaw", name := "tamper", desc := "(LDealtSecret;III)I" } : Jvm.MethodName)) ∈ AL := al_t2 135 rfl rfl
theorem k_333 : (Jvm.Cond.static ({ cls := "DealtSecretLaw", name := "tamper", desc := "(LDealtSecret;III)I" } : Jvm.MethodName)) ∈ AL := al_t2 136 rfl rfl
theorem k_334 : (Jvm.Cond.methodLink "DealtSecretLaw" (25 : Nat) ({ cls := "DealtSecret", name := "tamper", desc := "(III)V" } : Jvm.MethodName)) ∈ AL := al_t2 138 rfl rfl
theorem k_335 : (Jvm.Cond.instanceMethod ({ cls := "DealtSecret", name := "tamper", desc := "(III)V" } : Jvm.MethodName)) ∈ AL := al_t2 139 rfl rfl
theorem k_336 : (Jvm.Cond.selects "DealtSecret" ({ cls := "DealtSecret", name := "tamper", desc := "(III)V" } : Jvm.MethodName) ({ cls := "DealtSecret", name := "tamper", desc := "(III)V" } : Jvm.MethodName)) ∈ AL := al_t2 140 rfl rfl
theorem k_337 : (Jvm.Cond.code ({ cls := "DealtSecret", name := "tamper", desc := "(III)V" } : Jvm.MethodName) prog_1_method_6_code (4 : Nat) (Option.none : Option Jvm.ClassFile.FieldType)) ∈ AL := al_t2 141 rfl rfl
theorem k_338 : (Jvm.Cond.methodLink "DealtSecret" (118 : Nat) ({ cls := "DealtSecret", name := "demandParticipant", desc := "(I)V" } : Jvm.MethodName)) ∈ AL := al_t2 142 rfl rfl
theorem k_339 : (Jvm.Cond.instanceMethod ({ cls := "DealtSecret", name := "demandParticipant", desc := "(I)V" } : Jvm.MethodName)) ∈ AL := al_t2 144 rfl rfl
theorem k_340 : (Jvm.Cond.code ({ cls := "DealtSecret", name := "demandParticipant", desc := "(I)V" } : Jvm.MethodName) prog_1_method_22_code (2 : Nat) (Option.none : Option Jvm.ClassFile.FieldType)) ∈ AL := al_t2 145 rfl rfl
theorem k_341 : (Jvm.Cond.methodLink "DealtSecretLaw" (92 : Nat) ({ cls := "DealtSecretLaw", name := "forge", desc := "(LDealtSecret;II)I" } : Jvm.MethodName)) ∈ AL := al_t2 147 rfl rfl
theorem k_342 : (Jvm.Cond.static ({ cls := "DealtSecretLaw", name := "forge", desc := "(LDealtSecret;II)I" } : Jvm.MethodName)) ∈ AL := al_t2 148 rfl rfl
theorem k_343 : (Jvm.Cond.methodLink "DealtSecretLaw" (28 : Nat) ({ cls := "DealtSecret", name := "forge", desc := "(II)V" } : Jvm.MethodName)) ∈ AL := al_t2 150 rfl rfl
theorem k_344 : (Jvm.Cond.instanceMethod ({ cls := "DealtSecret", name := "forge", desc := "(II)V" } : Jvm.MethodName)) ∈ AL := al_t2 151 rfl rfl
theorem k_345 : (Jvm.Cond.selects "DealtSecret" ({ cls := "DealtSecret", name := "forge", desc := "(II)V" } : Jvm.MethodName) ({ cls := "DealtSecret", name := "forge", desc := "(II)V" } : Jvm.MethodName)) ∈ AL := al_t2 152 rfl rfl
theorem k_346 : (Jvm.Cond.code ({ cls := "DealtSecret", name := "forge", desc := "(II)V" } : Jvm.MethodName) prog_1_method_7_code (3 : Nat) (Option.none : Option Jvm.ClassFile.FieldType)) ∈ AL := al_t2 153 rfl rfl
theorem k_347 : (Jvm.Cond.methodLink "DealtSecretLaw" (96 : Nat) ({ cls := "DealtSecretLaw", name := "corrupt", desc := "(LDealtSecret;I[J)I" } : Jvm.MethodName)) ∈ AL := al_t2 155 rfl rfl
theorem k_348 : (Jvm.Cond.static ({ cls := "DealtSecretLaw", name := "corrupt", desc := "(LDealtSecret;I[J)I" } : Jvm.MethodName)) ∈ AL := al_t2 156 rfl rfl
theorem k_349 : (Jvm.Cond.methodLink "DealtSecretLaw" (32 : Nat) ({ cls := "DealtSecret", name := "corrupt", desc := "(I)Z" } : Jvm.MethodName)) ∈ AL := al_t2 158 rfl rfl
theorem k_350 : (Jvm.Cond.instanceMethod ({ cls := "DealtSecret", name := "corrupt", desc := "(I)Z" } : Jvm.MethodName)) ∈ AL := al_t2 159 rfl rfl
theorem k_351 : (Jvm.Cond.selects "DealtSecret" ({ cls := "DealtSecret", name := "corrupt", desc := "(I)Z" } : Jvm.MethodName) ({ cls := "DealtSecret", name := "corrupt", desc := "(I)Z" } : Jvm.MethodName)) ∈ AL := al_t2 160 rfl rfl
theorem k_352 : (Jvm.Cond.code ({ cls := "DealtSecret", name := "corrupt", desc := "(I)Z" } : Jvm.MethodName) prog_1_method_8_code (4 : Nat) (Option.some Jvm.ClassFile.FieldType.boolean)) ∈ AL := al_t2 161 rfl rfl
theorem k_353 : (Jvm.Cond.methodLink "DealtSecretLaw" (100 : Nat) ({ cls := "DealtSecretLaw", name := "accuse", desc := "(LDealtSecret;I[J)I" } : Jvm.MethodName)) ∈ AL := al_t2 162 rfl rfl
theorem k_354 : (Jvm.Cond.static ({ cls := "DealtSecretLaw", name := "accuse", desc := "(LDealtSecret;I[J)I" } : Jvm.MethodName)) ∈ AL := al_t2 163 rfl rfl
theorem k_355 : (Jvm.Cond.methodLink "DealtSecretLaw" (36 : Nat) ({ cls := "DealtSecret", name := "accuse", desc := "(I)Z" } : Jvm.MethodName)) ∈ AL := al_t2 165 rfl rfl
theorem k_356 : (Jvm.Cond.instanceMethod ({ cls := "DealtSecret", name := "accuse", desc := "(I)Z" } : Jvm.MethodName)) ∈ AL := al_t2 166 rfl rfl
theorem k_357 : (Jvm.Cond.selects "DealtSecret" ({ cls := "DealtSecret", name := "accuse", desc := "(I)Z" } : Jvm.MethodName) ({ cls := "DealtSecret", name := "accuse", desc := "(I)Z" } : Jvm.MethodName)) ∈ AL := al_t2 167 rfl rfl
theorem k_358 : (Jvm.Cond.code ({ cls := "DealtSecret", name := "accuse", desc := "(I)Z" } : Jvm.MethodName) prog_1_method_9_code (3 : Nat) (Option.some Jvm.ClassFile.FieldType.boolean)) ∈ AL := al_t2 168 rfl rfl
theorem k_359 : (Jvm.Cond.methodLink "DealtSecretLaw" (103 : Nat) ({ cls := "DealtSecretLaw", name := "answer", desc := "(LDealtSecret;III[J)I" } : Jvm.MethodName)) ∈ AL := al_t2 169 rfl rfl
theorem k_360 : (Jvm.Cond.static ({ cls := "DealtSecretLaw", name := "answer", desc := "(LDealtSecret;III[J)I" } : Jvm.MethodName)) ∈ AL := al_t2 170 rfl rfl
theorem k_361 : (Jvm.Cond.classLink "DealtSecretLaw" (43 : Nat) "java/util/NoSuchElementException") ∈ AL := al_t2 172 rfl rfl
theorem k_362 : (Jvm.Cond.methodLink "DealtSecretLaw" (39 : Nat) ({ cls := "DealtSecret", name := "answer", desc := "(III)Z" } : Jvm.MethodName)) ∈ AL := al_t2 173 rfl rfl
theorem k_363 : (Jvm.Cond.instanceMethod ({ cls := "DealtSecret", name := "answer", desc := "(III)Z" } : Jvm.MethodName)) ∈ AL := al_t2 174 rfl rfl
theorem k_364 : (Jvm.Cond.selects "DealtSecret" ({ cls := "DealtSecret", name := "answer", desc := "(III)Z" } : Jvm.MethodName) ({ cls := "DealtSecret", name := "answer", desc := "(III)Z" } : Jvm.MethodName)) ∈ AL := al_t2 175 rfl rfl
theorem k_365 : (Jvm.Cond.code ({ cls := "DealtSecret", name := "answer", desc := "(III)Z" } : Jvm.MethodName) prog_1_method_10_code (5 : Nat) (Option.some Jvm.ClassFile.FieldType.boolean)) ∈ AL := al_t2 176 rfl rfl
theorem k_366 : (Jvm.Cond.classLink "DealtSecret" (135 : Nat) "java/util/NoSuchElementException") ∈ AL := al_t2 177 rfl rfl
theorem k_367 : (Jvm.Cond.instantiable "java/util/NoSuchElementException" (6 : Nat)) ∈ AL := al_t2 178 rfl rfl
theorem k_368 : (Jvm.Cond.selects "java/util/NoSuchElementException" ({ cls := "java/lang/Throwable", name := "fillInStackTrace", desc := "(I)Ljava/lang/Throwable;" } : Jvm.MethodName) ({ cls := "java/lang/Throwable", name := "fillInStackTrace", desc := "(I)Ljava/lang/Throwable;" } : Jvm.MethodName)) ∈ AL := al_t2 180 rfl rfl
theorem k_369 : (Jvm.Cond.lays "java/util/NoSuchElementException" "java/lang/Throwable" "cause" "Ljava/lang/Throwable;") ∈ AL := al_t2 181 rfl rfl
theorem k_370 : (Jvm.Cond.lays "java/util/NoSuchElementException" "java/lang/Throwable" "stackTrace" "[Ljava/lang/StackTraceElement;") ∈ AL := al_t2 182 rfl rfl
theorem k_371 : (Jvm.Cond.lays "java/util/NoSuchElementException" "java/lang/Throwable" "suppressedExceptions" "Ljava/util/List;") ∈ AL := al_t2 183 rfl rfl
theorem k_372 : (Jvm.Cond.lays "java/util/NoSuchElementException" "java/lang/Throwable" "detailMessage" "Ljava/lang/String;") ∈ AL := al_t2 184 rfl rfl
theorem k_373 : (Jvm.Cond.lays "java/util/NoSuchElementException" "java/lang/Throwable" "backtrace" "Ljava/lang/Object;") ∈ AL := al_t2 185 rfl rfl
theorem k_374 : (Jvm.Cond.methodLink "DealtSecret" (139 : Nat) ({ cls := "java/util/NoSuchElementException", name := "<init>", desc := "(Ljava/lang/String;)V" } : Jvm.MethodName)) ∈ AL := al_t2 187 rfl rfl
theorem k_375 : (Jvm.Cond.instanceMethod ({ cls := "java/util/NoSuchElementException", name := "<init>", desc := "(Ljava/lang/String;)V" } : Jvm.MethodName)) ∈ AL := al_t2 188 rfl rfl
theorem k_376 : (Jvm.Cond.code ({ cls := "java/util/NoSuchElementException", name := "<init>", desc := "(Ljava/lang/String;)V" } : Jvm.MethodName) prog_14_method_4_code (2 : Nat) (Option.none : Option Jvm.ClassFile.FieldType)) ∈ AL := al_t2 189 rfl rfl
theorem k_377 : (Jvm.Cond.methodLink "java/util/NoSuchElementException" (13 : Nat) ({ cls := "java/lang/RuntimeException", name := "<init>", desc := "(Ljava/lang/String;)V" } : Jvm.MethodName)) ∈ AL := al_t2 190 rfl rfl
theorem k_378 : (Jvm.Cond.lays "java/util/NoSuchElementException" "java/lang/Throwable" "depth" "I") ∈ AL := al_t2 191 rfl rfl
theorem k_379 : (Jvm.Cond.methodLink "DealtSecretLaw" (107 : Nat) ({ cls := "DealtSecretLaw", name := "open", desc := "(LDealtSecret;I[J)I" } : Jvm.MethodName)) ∈ AL := al_t2 193 rfl rfl
theorem k_380 : (Jvm.Cond.static ({ cls := "DealtSecretLaw", name := "open", desc := "(LDealtSecret;I[J)I" } : Jvm.MethodName)) ∈ AL := al_t2 194 rfl rfl
theorem k_381 : (Jvm.Cond.methodLink "DealtSecretLaw" (45 : Nat) ({ cls := "DealtSecret", name := "open", desc := "(I)Z" } : Jvm.MethodName)) ∈ AL := al_t2 196 rfl rfl
theorem k_382 : (Jvm.Cond.instanceMethod ({ cls := "DealtSecret", name := "open", desc := "(I)Z" } : Jvm.MethodName)) ∈ AL := al_t2 197 rfl rfl
theorem k_383 : (Jvm.Cond.selects "DealtSecret" ({ cls := "DealtSecret", name := "open", desc := "(I)Z" } : Jvm.MethodName) ({ cls := "DealtSecret", name := "open", desc := "(I)Z" } : Jvm.MethodName)) ∈ AL := al_t2 198 rfl rfl
theorem k_384 : (Jvm.Cond.code ({ cls := "DealtSecret", name := "open", desc := "(I)Z" } : Jvm.MethodName) prog_1_method_11_code (3 : Nat) (Option.some Jvm.ClassFile.FieldType.boolean)) ∈ AL := al_t2 199 rfl rfl
theorem k_385 : (Jvm.Cond.methodLink "DealtSecret" (153 : Nat) ({ cls := "DealtSecret", name := "layOpen", desc := "(LDealtSecret$Participant;II)Z" } : Jvm.MethodName)) ∈ AL := al_t2 200 rfl rfl
theorem k_386 : (Jvm.Cond.instanceMethod ({ cls := "DealtSecret", name := "layOpen", desc := "(LDealtSecret$Participant;II)Z" } : Jvm.MethodName)) ∈ AL := al_t2 202 rfl rfl
theorem k_387 : (Jvm.Cond.code ({ cls := "DealtSecret", name := "layOpen", desc := "(LDealtSecret$Participant;II)Z" } : Jvm.MethodName) prog_1_method_36_code (4 : Nat) (Option.some Jvm.ClassFile.FieldType.boolean)) ∈ AL := al_t2 203 rfl rfl
theorem k_388 : (Jvm.Cond.methodLink "DealtSecret" (221 : Nat) ({ cls := "DealtSecret$Participant", name := "keep", desc := "(II)V" } : Jvm.MethodName)) ∈ AL := al_t2 204 rfl rfl
theorem k_389 : (Jvm.Cond.instanceMethod ({ cls := "DealtSecret$Participant", name := "keep", desc := "(II)V" } : Jvm.MethodName)) ∈ AL := al_t2 205 rfl rfl
theorem k_390 : (Jvm.Cond.selects "DealtSecret$Participant" ({ cls := "DealtSecret$Participant", name := "keep", desc := "(II)V" } : Jvm.MethodName) ({ cls := "DealtSecret$Participant", name := "keep", desc := "(II)V" } : Jvm.MethodName)) ∈ AL := al_t2 206 rfl rfl
theorem k_391 : (Jvm.Cond.code ({ cls := "DealtSecret$Participant", name := "keep", desc := "(II)V" } : Jvm.MethodName) prog_3_method_4_code (3 : Nat) (Option.none : Option Jvm.ClassFile.FieldType)) ∈ AL := al_t2 207 rfl rfl
theorem k_392 : (Jvm.Cond.methodLink "DealtSecret" (227 : Nat) ({ cls := "DealtSecret$Group", name := "minus", desc := "(II)I" } : Jvm.MethodName)) ∈ AL := al_t2 208 rfl rfl
theorem k_393 : (Jvm.Cond.instanceMethod ({ cls := "DealtSecret$Group", name := "minus", desc := "(II)I" } : Jvm.MethodName)) ∈ AL := al_t2 209 rfl rfl
theorem k_394 : (Jvm.Cond.selects "DealtSecret$Group" ({ cls := "DealtSecret$Group", name := "minus", desc := "(II)I" } : Jvm.MethodName) ({ cls := "DealtSecret$Group", name := "minus", desc := "(II)I" } : Jvm.MethodName)) ∈ AL := al_t2 210 rfl rfl
theorem k_395 : (Jvm.Cond.code ({ cls := "DealtSecret$Group", name := "minus", desc := "(II)I" } : Jvm.MethodName) prog_2_method_12_code (3 : Nat) (Option.some Jvm.ClassFile.FieldType.int)) ∈ AL := al_t2 211 rfl rfl
theorem k_396 : (Jvm.Cond.methodLink "DealtSecret$Group" (53 : Nat) ({ cls := "DealtSecret$Group", name := "number", desc := "(I)I" } : Jvm.MethodName)) ∈ AL := al_t2 212 rfl rfl
theorem k_397 : (Jvm.Cond.methodLink "DealtSecret" (230 : Nat) ({ cls := "DealtSecret$Group", name := "quotient", desc := "(II)I" } : Jvm.MethodName)) ∈ AL := al_t2 213 rfl rfl
theorem k_398 : (Jvm.Cond.instanceMethod ({ cls := "DealtSecret$Group", name := "quotient", desc := "(II)I" } : Jvm.MethodName)) ∈ AL := al_t2 214 rfl rfl
theorem k_399 : (Jvm.Cond.selects "DealtSecret$Group" ({ cls := "DealtSecret$Group", name := "quotient", desc := "(II)I" } : Jvm.MethodName) ({ cls := "DealtSecret$Group", name := "quotient", desc := "(II)I" } : Jvm.MethodName)) ∈ AL := al_t2 215 rfl rfl
theorem k_400 : (Jvm.Cond.code ({ cls := "DealtSecret$Group", name := "quotient", desc := "(II)I" } : Jvm.MethodName) prog_2_method_14_code (3 : Nat) (Option.some Jvm.ClassFile.FieldType.int)) ∈ AL := al_t2 216 rfl rfl
theorem k_401 : (Jvm.Cond.methodLink "DealtSecret$Group" (57 : Nat) ({ cls := "DealtSecret$Group", name := "times", desc := "(II)I" } : Jvm.MethodName)) ∈ AL := al_t2 217 rfl rfl
theorem k_402 : (Jvm.Cond.methodLink "DealtSecretLaw" (110 : Nat) ({ cls := "DealtSecretLaw", name := "show", desc := "(LDealtSecret;III[J)I" } : Jvm.MethodName)) ∈ AL := al_t2 218 rfl rfl
theorem k_403 : (Jvm.Cond.static ({ cls := "DealtSecretLaw", name := "show", desc := "(LDealtSecret;III[J)I" } : Jvm.MethodName)) ∈ AL := al_t2 219 rfl rfl
theorem k_404 : (Jvm.Cond.methodLink "DealtSecretLaw" (48 : Nat) ({ cls := "DealtSecret", name := "show", desc := "(III)Z" } : Jvm.MethodName)) ∈ AL := al_t2 221 rfl rfl
theorem k_405 : (Jvm.Cond.instanceMethod ({ cls := "DealtSecret", name := "show", desc := "(III)Z" } : Jvm.MethodName)) ∈ AL := al_t2 222 rfl rfl
theorem k_406 : (Jvm.Cond.selects "DealtSecret" ({ cls := "DealtSecret", name := "show", desc := "(III)Z" } : Jvm.MethodName) ({ cls := "DealtSecret", name := "show", desc := "(III)Z" } : Jvm.MethodName)) ∈ AL := al_t2 223 rfl rfl
theorem k_407 : (Jvm.Cond.code ({ cls := "DealtSecret", name := "show", desc := "(III)Z" } : Jvm.MethodName) prog_1_method_12_code (4 : Nat) (Option.some Jvm.ClassFile.FieldType.boolean)) ∈ AL := al_t2 224 rfl rfl
theorem k_408 : (Jvm.Cond.methodLink "DealtSecretLaw" (113 : Nat) ({ cls := "DealtSecretLaw", name := "secret", desc := "(LDealtSecret;[J)I" } : Jvm.MethodName)) ∈ AL := al_t2 225 rfl rfl
theorem k_409 : (Jvm.Cond.static ({ cls := "DealtSecretLaw", name := "secret", desc := "(LDealtSecret;[J)I" } : Jvm.MethodName)) ∈ AL := al_t2 226 rfl rfl
theorem k_410 : (Jvm.Cond.methodLink "DealtSecretLaw" (51 : Nat) ({ cls := "DealtSecret", name := "secret", desc := "()I" } : Jvm.MethodName)) ∈ AL := al_t2 228 rfl rfl
theorem k_411 : (Jvm.Cond.instanceMethod ({ cls := "DealtSecret", name := "secret", desc := "()I" } : Jvm.MethodName)) ∈ AL := al_t2 229 rfl rfl
theorem k_412 : (Jvm.Cond.selects "DealtSecret" ({ cls := "DealtSecret", name := "secret", desc := "()I" } : Jvm.MethodName) ({ cls := "DealtSecret", name := "secret", desc := "()I" } : Jvm.MethodName)) ∈ AL := al_t2 230 rfl rfl
theorem k_413 : (Jvm.Cond.code ({ cls := "DealtSecret", name := "secret", desc := "()I" } : Jvm.MethodName) prog_1_method_13_code (5 : Nat) (Option.some Jvm.ClassFile.FieldType.int)) ∈ AL := al_t2 231 rfl rfl
theorem k_414 : (Jvm.Cond.methodLink "DealtSecret" (157 : Nat) ({ cls := "DealtSecret", name := "opened", desc := "()I" } : Jvm.MethodName)) ∈ AL := al_t2 232 rfl rfl
theorem k_415 : (Jvm.Cond.methodLink "DealtSecret" (162 : Nat) ({ cls := "DealtSecret", name := "lastOfTheChosen", desc := "()I" } : Jvm.MethodName)) ∈ AL := al_t2 234 rfl rfl
theorem k_416 : (Jvm.Cond.instanceMethod ({ cls := "DealtSecret", name := "lastOfTheChosen", desc := "()I" } : Jvm.MethodName)) ∈ AL := al_t2 236 rfl rfl
theorem k_417 : (Jvm.Cond.code ({ cls := "DealtSecret", name := "lastOfTheChosen", desc := "()I" } : Jvm.MethodName) prog_1_method_37_code (3 : Nat) (Option.some Jvm.ClassFile.FieldType.int)) ∈ AL := al_t2 237 rfl rfl
theorem k_418 : (Jvm.Cond.methodLink "DealtSecret" (171 : Nat) ({ cls := "DealtSecret", name := "weightAtZero", desc := "(II)I" } : Jvm.MethodName)) ∈ AL := al_t2 238 rfl rfl
theorem k_419 : (Jvm.Cond.instanceMethod ({ cls := "DealtSecret", name := "weightAtZero", desc := "(II)I" } : Jvm.MethodName)) ∈ AL := al_t3 0 rfl rfl
theorem k_420 : (Jvm.Cond.code ({ cls := "DealtSecret", name := "weightAtZero", desc := "(II)I" } : Jvm.MethodName) prog_1_method_38_code (6 : Nat) (Option.some Jvm.ClassFile.FieldType.int)) ∈ AL := al_t3 1 rfl rfl
theorem k_421 : (Jvm.Cond.methodLink "DealtSecretLaw" (116 : Nat) ({ cls := "DealtSecretLaw", name := "relation", desc := "(LDealtSecret;[J)I" } : Jvm.MethodName)) ∈ AL := al_t3 2 rfl rfl
theorem k_422 : (Jvm.Cond.static ({ cls := "DealtSecretLaw", name := "relation", desc := "(LDealtSecret;[J)I" } : Jvm.MethodName)) ∈ AL := al_t3 3 rfl rfl
theorem k_423 : (Jvm.Cond.methodLink "DealtSecretLaw" (54 : Nat) ({ cls := "DealtSecret", name := "relation", desc := "()I" } : Jvm.MethodName)) ∈ AL := al_t3 5 rfl rfl
theorem k_424 : (Jvm.Cond.instanceMethod ({ cls := "DealtSecret", name := "relation", desc := "()I" } : Jvm.MethodName)) ∈ AL := al_t3 6 rfl rfl
theorem k_425 : (Jvm.Cond.selects "DealtSecret" ({ cls := "DealtSecret", name := "relation", desc := "()I" } : Jvm.MethodName) ({ cls := "DealtSecret", name := "relation", desc := "()I" } : Jvm.MethodName)) ∈ AL := al_t3 7 rfl rfl
theorem k_426 : (Jvm.Cond.code ({ cls := "DealtSecret", name := "relation", desc := "()I" } : Jvm.MethodName) prog_1_method_14_code (1 : Nat) (Option.some Jvm.ClassFile.FieldType.int)) ∈ AL := al_t3 8 rfl rfl
theorem k_427 : (Jvm.Cond.classLink "DealtSecretLaw" (66 : Nat) "DealtSecretModel") ∈ AL := al_t3 10 rfl rfl
theorem k_428 : (Jvm.Cond.instantiable "DealtSecretModel" (24 : Nat)) ∈ AL := al_t3 11 rfl rfl
theorem k_429 : (Jvm.Cond.methodLink "DealtSecretLaw" (68 : Nat) ({ cls := "DealtSecretModel", name := "<init>", desc := "(IIII)V" } : Jvm.MethodName)) ∈ AL := al_t3 12 rfl rfl
theorem k_430 : (Jvm.Cond.instanceMethod ({ cls := "DealtSecretModel", name := "<init>", desc := "(IIII)V" } : Jvm.MethodName)) ∈ AL := al_t3 13 rfl rfl
theorem k_431 : (Jvm.Cond.code ({ cls := "DealtSecretModel", name := "<init>", desc := "(IIII)V" } : Jvm.MethodName) prog_5_method_1_code (6 : Nat) (Option.none : Option Jvm.ClassFile.FieldType)) ∈ AL := al_t3 14 rfl rfl
theorem k_432 : (Jvm.Cond.methodLink "DealtSecretModel" (1 : Nat) ({ cls := "java/lang/Object", name := "<init>", desc := "()V" } : Jvm.MethodName)) ∈ AL := al_t3 15 rfl rfl
theorem k_433 : (Jvm.Cond.methodLink "DealtSecretModel" (50 : Nat) ({ cls := "DealtSecretModel", name := "prime", desc := "(I)Z" } : Jvm.MethodName)) ∈ AL := al_t3 16 rfl rfl
theorem k_434 : (Jvm.Cond.static ({ cls := "DealtSecretModel", name := "prime", desc := "(I)Z" } : Jvm.MethodName)) ∈ AL := al_t3 17 rfl rfl
theorem k_435 : (Jvm.Cond.code ({ cls := "DealtSecretModel", name := "prime", desc := "(I)Z" } : Jvm.MethodName) prog_5_method_2_code (2 : Nat) (Option.some Jvm.ClassFile.FieldType.boolean)) ∈ AL := al_t3 18 rfl rfl
theorem k_436 : (Jvm.Cond.constant "DealtSecretModel" (71 : Nat) (46340 : Int32)) ∈ AL := al_t3 19 rfl rfl
theorem k_437 : (Jvm.Cond.methodLink "DealtSecretModel" (54 : Nat) ({ cls := "DealtSecretModel", name := "power", desc := "(III)I" } : Jvm.MethodName)) ∈ AL := al_t3 20 rfl rfl
theorem k_438 : (Jvm.Cond.static ({ cls := "DealtSecretModel", name := "power", desc := "(III)I" } : Jvm.MethodName)) ∈ AL := al_t3 21 rfl rfl
theorem k_439 : (Jvm.Cond.code ({ cls := "DealtSecretModel", name := "power", desc := "(III)I" } : Jvm.MethodName) prog_5_method_4_code (6 : Nat) (Option.some Jvm.ClassFile.FieldType.int)) ∈ AL := al_t3 22 rfl rfl
theorem k_440 : (Jvm.Cond.methodLink "DealtSecretModel" (72 : Nat) ({ cls := "DealtSecretModel", name := "times", desc := "(III)I" } : Jvm.MethodName)) ∈ AL := al_t3 23 rfl rfl
theorem k_441 : (Jvm.Cond.static ({ cls := "DealtSecretModel", name := "times", desc := "(III)I" } : Jvm.MethodName)) ∈ AL := al_t3 24 rfl rfl
theorem k_442 : (Jvm.Cond.code ({ cls := "DealtSecretModel", name := "times", desc := "(III)I" } : Jvm.MethodName) prog_5_method_3_code (3 : Nat) (Option.some Jvm.ClassFile.FieldType.int)) ∈ AL := al_t3 25 rfl rfl
theorem k_443 : (Jvm.Cond.fieldLink "DealtSecretModel" (58 : Nat) "DealtSecretModel" "p" "I") ∈ AL := al_t3 26 rfl rfl
theorem k_444 : (Jvm.Cond.fieldLink "DealtSecretModel" (62 : Nat) "DealtSecretModel" "q" "I") ∈ AL := al_t3 27 rfl rfl
theorem k_445 : (Jvm.Cond.fieldLink "DealtSecretModel" (65 : Nat) "DealtSecretModel" "g" "I") ∈ AL := al_t3 28 rfl rfl
theorem k_446 : (Jvm.Cond.fieldLink "DealtSecretModel" (68 : Nat) "DealtSecretModel" "h" "I") ∈ AL := al_t3 29 rfl rfl
theorem k_447 : (Jvm.Cond.fieldLink "DealtSecretModel" (92 : Nat) "DealtSecretModel" "stage" "I") ∈ AL := al_t3 30 rfl rfl
theorem k_448 : (Jvm.Cond.fieldLink "DealtSecretModel" (85 : Nat) "DealtSecretModel" "thrown" "I") ∈ AL := al_t3 31 rfl rfl
theorem k_449 : (Jvm.Cond.fieldLink "DealtSecretModel" (82 : Nat) "DealtSecretModel" "n" "I") ∈ AL := al_t3 32 rfl rfl
theorem k_450 : (Jvm.Cond.fieldLink "DealtSecretModel" (75 : Nat) "DealtSecretModel" "t" "I") ∈ AL := al_t3 33 rfl rfl
theorem k_451 : (Jvm.Cond.fieldLink "DealtSecretModel" (88 : Nat) "DealtSecretModel" "blind" "Z") ∈ AL := al_t3 34 rfl rfl
theorem k_452 : (Jvm.Cond.fieldLink "DealtSecretModel" (7 : Nat) "DealtSecretModel" "a" "[I") ∈ AL := al_t3 35 rfl rfl
theorem k_453 : (Jvm.Cond.fieldLink "DealtSecretModel" (13 : Nat) "DealtSecretModel" "b" "[I") ∈ AL := al_t3 36 rfl rfl
theorem k_454 : (Jvm.Cond.fieldLink "DealtSecretModel" (16 : Nat) "DealtSecretModel" "c" "[I") ∈ AL := al_t3 37 rfl rfl
theorem k_455 : (Jvm.Cond.fieldLink "DealtSecretModel" (19 : Nat) "DealtSecretModel" "corrupt" "[Z") ∈ AL := al_t3 38 rfl rfl
theorem k_456 : (Jvm.Cond.fieldLink "DealtSecretModel" (23 : Nat) "DealtSecretModel" "complains" "[Z") ∈ AL := al_t3 39 rfl rfl
theorem k_457 : (Jvm.Cond.fieldLink "DealtSecretModel" (26 : Nat) "DealtSecretModel" "answered" "[Z") ∈ AL := al_t3 40 rfl rfl
theorem k_458 : (Jvm.Cond.fieldLink "DealtSecretModel" (29 : Nat) "DealtSecretModel" "first" "[I") ∈ AL := al_t3 41 rfl rfl
theorem k_459 : (Jvm.Cond.fieldLink "DealtSecretModel" (32 : Nat) "DealtSecretModel" "second" "[I") ∈ AL := al_t3 42 rfl rfl
theorem k_460 : (Jvm.Cond.fieldLink "DealtSecretModel" (35 : Nat) "DealtSecretModel" "kept" "[Z") ∈ AL := al_t3 43 rfl rfl
theorem k_461 : (Jvm.Cond.fieldLink "DealtSecretModel" (38 : Nat) "DealtSecretModel" "keptFirst" "[I") ∈ AL := al_t3 44 rfl rfl
theorem k_462 : (Jvm.Cond.fieldLink "DealtSecretModel" (41 : Nat) "DealtSecretModel" "keptSecond" "[I") ∈ AL := al_t3 45 rfl rfl
theorem k_463 : (Jvm.Cond.fieldLink "DealtSecretModel" (95 : Nat) "DealtSecretModel" "related" "Z") ∈ AL := al_t3 46 rfl rfl
theorem k_464 : (Jvm.Cond.fieldLink "DealtSecretModel" (126 : Nat) "DealtSecretModel" "relation" "I") ∈ AL := al_t3 47 rfl rfl
theorem k_465 : (Jvm.Cond.fieldLink "DealtSecretModel" (44 : Nat) "DealtSecretModel" "place" "[I") ∈ AL := al_t3 48 rfl rfl
theorem k_466 : (Jvm.Cond.fieldLink "DealtSecretModel" (47 : Nat) "DealtSecretModel" "value" "[I") ∈ AL := al_t3 49 rfl rfl
theorem k_467 : (Jvm.Cond.laysFinal "DealtSecretModel" "DealtSecretModel" "p" "I") ∈ AL := al_t3 50 rfl rfl
theorem k_468 : (Jvm.Cond.soleField "DealtSecretModel" "p") ∈ AL := al_t3 51 rfl rfl
theorem k_469 : (Jvm.Cond.laysFinal "DealtSecretModel" "DealtSecretModel" "q" "I") ∈ AL := al_t3 52 rfl rfl
theorem k_470 : (Jvm.Cond.soleField "DealtSecretModel" "q") ∈ AL := al_t3 53 rfl rfl
theorem k_471 : (Jvm.Cond.laysFinal "DealtSecretModel" "DealtSecretModel" "g" "I") ∈ AL := al_t3 54 rfl rfl
theorem k_472 : (Jvm.Cond.soleField "DealtSecretModel" "g") ∈ AL := al_t3 55 rfl rfl
theorem k_473 : (Jvm.Cond.laysFinal "DealtSecretModel" "DealtSecretModel" "h" "I") ∈ AL := al_t3 56 rfl rfl
theorem k_474 : (Jvm.Cond.soleField "DealtSecretModel" "h") ∈ AL := al_t3 57 rfl rfl
theorem k_475 : (Jvm.Cond.lays "DealtSecretModel" "DealtSecretModel" "stage" "I") ∈ AL := al_t3 58 rfl rfl
theorem k_476 : (Jvm.Cond.soleField "DealtSecretModel" "stage") ∈ AL := al_t3 59 rfl rfl
theorem k_477 : (Jvm.Cond.lays "DealtSecretModel" "DealtSecretModel" "thrown" "I") ∈ AL := al_t3 60 rfl rfl
theorem k_478 : (Jvm.Cond.soleField "DealtSecretModel" "thrown") ∈ AL := al_t3 61 rfl rfl
theorem k_479 : (Jvm.Cond.lays "DealtSecretModel" "DealtSecretModel" "n" "I") ∈ AL := al_t3 62 rfl rfl
theorem k_480 : (Jvm.Cond.soleField "DealtSecretModel" "n") ∈ AL := al_t3 63 rfl rfl
theorem k_481 : (Jvm.Cond.lays "DealtSecretModel" "DealtSecretModel" "t" "I") ∈ AL := al_t3 64 rfl rfl
theorem k_482 : (Jvm.Cond.soleField "DealtSecretModel" "t") ∈ AL := al_t3 65 rfl rfl
theorem k_483 : (Jvm.Cond.lays "DealtSecretModel" "DealtSecretModel" "blind" "Z") ∈ AL := al_t3 66 rfl rfl
theorem k_484 : (Jvm.Cond.soleField "DealtSecretModel" "blind") ∈ AL := al_t3 67 rfl rfl
theorem k_485 : (Jvm.Cond.laysFinal "DealtSecretModel" "DealtSecretModel" "a" "[I") ∈ AL := al_t3 68 rfl rfl
theorem k_486 : (Jvm.Cond.soleField "DealtSecretModel" "a") ∈ AL := al_t3 69 rfl rfl
theorem k_487 : (Jvm.Cond.laysFinal "DealtSecretModel" "DealtSecretModel" "b" "[I") ∈ AL := al_t3 70 rfl rfl
theorem k_488 : (Jvm.Cond.soleField "DealtSecretModel" "b") ∈ AL := al_t3 71 rfl rfl
theorem k_489 : (Jvm.Cond.laysFinal "DealtSecretModel" "DealtSecretModel" "c" "[I") ∈ AL := al_t3 72 rfl rfl
theorem k_490 : (Jvm.Cond.soleField "DealtSecretModel" "c") ∈ AL := al_t3 73 rfl rfl
theorem k_491 : (Jvm.Cond.laysFinal "DealtSecretModel" "DealtSecretModel" "corrupt" "[Z") ∈ AL := al_t3 74 rfl rfl
theorem k_492 : (Jvm.Cond.soleField "DealtSecretModel" "corrupt") ∈ AL := al_t3 75 rfl rfl
theorem k_493 : (Jvm.Cond.laysFinal "DealtSecretModel" "DealtSecretModel" "complains" "[Z") ∈ AL := al_t3 76 rfl rfl
theorem k_494 : (Jvm.Cond.soleField "DealtSecretModel" "complains") ∈ AL := al_t3 77 rfl rfl
theorem k_495 : (Jvm.Cond.laysFinal "DealtSecretModel" "DealtSecretModel" "answered" "[Z") ∈ AL := al_t3 78 rfl rfl
theorem k_496 : (Jvm.Cond.soleField "DealtSecretModel" "answered") ∈ AL := al_t3 79 rfl rfl
theorem k_497 : (Jvm.Cond.laysFinal "DealtSecretModel" "DealtSecretModel" "first" "[I") ∈ AL := al_t3 80 rfl rfl
theorem k_498 : (Jvm.Cond.soleField "DealtSecretModel" "first") ∈ AL := al_t3 81 rfl rfl
theorem k_499 : (Jvm.Cond.laysFinal "DealtSecretModel" "DealtSecretModel" "second" "[I") ∈ AL := al_t3 82 rfl rfl
theorem k_500 : (Jvm.Cond.soleField "DealtSecretModel" "second") ∈ AL := al_t3 83 rfl rfl
theorem k_501 : (Jvm.Cond.laysFinal "DealtSecretModel" "DealtSecretModel" "kept" "[Z") ∈ AL := al_t3 84 rfl rfl
theorem k_502 : (Jvm.Cond.soleField "DealtSecretModel" "kept") ∈ AL := al_t3 85 rfl rfl
theorem k_503 : (Jvm.Cond.laysFinal "DealtSecretModel" "DealtSecretModel" "keptFirst" "[I") ∈ AL := al_t3 86 rfl rfl
theorem k_504 : (Jvm.Cond.soleField "DealtSecretModel" "keptFirst") ∈ AL := al_t3 87 rfl rfl
theorem k_505 : (Jvm.Cond.laysFinal "DealtSecretModel" "DealtSecretModel" "keptSecond" "[I") ∈ AL := al_t3 88 rfl rfl
theorem k_506 : (Jvm.Cond.soleField "DealtSecretModel" "keptSecond") ∈ AL := al_t3 89 rfl rfl
theorem k_507 : (Jvm.Cond.lays "DealtSecretModel" "DealtSecretModel" "related" "Z") ∈ AL := al_t3 90 rfl rfl
theorem k_508 : (Jvm.Cond.soleField "DealtSecretModel" "related") ∈ AL := al_t3 91 rfl rfl
theorem k_509 : (Jvm.Cond.lays "DealtSecretModel" "DealtSecretModel" "relation" "I") ∈ AL := al_t3 92 rfl rfl
theorem k_510 : (Jvm.Cond.soleField "DealtSecretModel" "relation") ∈ AL := al_t3 93 rfl rfl
theorem k_511 : (Jvm.Cond.laysFinal "DealtSecretModel" "DealtSecretModel" "place" "[I") ∈ AL := al_t3 94 rfl rfl
theorem k_512 : (Jvm.Cond.soleField "DealtSecretModel" "place") ∈ AL := al_t3 95 rfl rfl
theorem k_513 : (Jvm.Cond.laysFinal "DealtSecretModel" "DealtSecretModel" "value" "[I") ∈ AL := al_t3 96 rfl rfl
theorem k_514 : (Jvm.Cond.soleField "DealtSecretModel" "value") ∈ AL := al_t3 97 rfl rfl
theorem k_515 : (Jvm.Cond.arrayClass Jvm.ClassFile.FieldType.boolean) ∈ AL := al_t3 99 rfl rfl
theorem k_516 : (Jvm.Cond.methodLink "DealtSecretLaw" (78 : Nat) ({ cls := "DealtSecretModel", name := "thrown", desc := "()I" } : Jvm.MethodName)) ∈ AL := al_t3 100 rfl rfl
theorem k_517 : (Jvm.Cond.instanceMethod ({ cls := "DealtSecretModel", name := "thrown", desc := "()I" } : Jvm.MethodName)) ∈ AL := al_t3 101 rfl rfl
theorem k_518 : (Jvm.Cond.selects "DealtSecretModel" ({ cls := "DealtSecretModel", name := "thrown", desc := "()I" } : Jvm.MethodName) ({ cls := "DealtSecretModel", name := "thrown", desc := "()I" } : Jvm.MethodName)) ∈ AL := al_t3 102 rfl rfl
theorem k_519 : (Jvm.Cond.code ({ cls := "DealtSecretModel", name := "thrown", desc := "()I" } : Jvm.MethodName) prog_5_method_13_code (1 : Nat) (Option.some Jvm.ClassFile.FieldType.int)) ∈ AL := al_t3 103 rfl rfl
theorem k_520 : (Jvm.Cond.methodLink "DealtSecretLaw" (73 : Nat) ({ cls := "DealtSecretModel", name := "group", desc := "(I)I" } : Jvm.MethodName)) ∈ AL := al_t3 104 rfl rfl
theorem k_521 : (Jvm.Cond.instanceMethod ({ cls := "DealtSecretModel", name := "group", desc := "(I)I" } : Jvm.MethodName)) ∈ AL := al_t3 105 rfl rfl
theorem k_522 : (Jvm.Cond.selects "DealtSecretModel" ({ cls := "DealtSecretModel", name := "group", desc := "(I)I" } : Jvm.MethodName) ({ cls := "DealtSecretModel", name := "group", desc := "(I)I" } : Jvm.MethodName)) ∈ AL := al_t3 106 rfl rfl
theorem k_523 : (Jvm.Cond.code ({ cls := "DealtSecretModel", name := "group", desc := "(I)I" } : Jvm.MethodName) prog_5_method_14_code (2 : Nat) (Option.some Jvm.ClassFile.FieldType.int)) ∈ AL := al_t3 107 rfl rfl
theorem k_524 : (Jvm.Cond.methodLink "DealtSecretLaw" (77 : Nat) ({ cls := "DealtSecretModel", name := "begin", desc := "(IIZ)V" } : Jvm.MethodName)) ∈ AL := al_t3 108 rfl rfl
theorem k_525 : (Jvm.Cond.instanceMethod ({ cls := "DealtSecretModel", name := "begin", desc := "(IIZ)V" } : Jvm.MethodName)) ∈ AL := al_t3 109 rfl rfl
theorem k_526 : (Jvm.Cond.selects "DealtSecretModel" ({ cls := "DealtSecretModel", name := "begin", desc := "(IIZ)V" } : Jvm.MethodName) ({ cls := "DealtSecretModel", name := "begin", desc := "(IIZ)V" } : Jvm.MethodName)) ∈ AL := al_t3 110 rfl rfl
theorem k_527 : (Jvm.Cond.code ({ cls := "DealtSecretModel", name := "begin", desc := "(IIZ)V" } : Jvm.MethodName) prog_5_method_15_code (6 : Nat) (Option.none : Option Jvm.ClassFile.FieldType)) ∈ AL := al_t3 111 rfl rfl
theorem k_528 : (Jvm.Cond.methodLink "DealtSecretLaw" (84 : Nat) ({ cls := "DealtSecretModel", name := "coefficient", desc := "(III)V" } : Jvm.MethodName)) ∈ AL := al_t3 112 rfl rfl
theorem k_529 : (Jvm.Cond.instanceMethod ({ cls := "DealtSecretModel", name := "coefficient", desc := "(III)V" } : Jvm.MethodName)) ∈ AL := al_t3 113 rfl rfl
theorem k_530 : (Jvm.Cond.selects "DealtSecretModel" ({ cls := "DealtSecretModel", name := "coefficient", desc := "(III)V" } : Jvm.MethodName) ({ cls := "DealtSecretModel", name := "coefficient", desc := "(III)V" } : Jvm.MethodName)) ∈ AL := al_t3 114 rfl rfl
theorem k_531 : (Jvm.Cond.code ({ cls := "DealtSecretModel", name := "coefficient", desc := "(III)V" } : Jvm.MethodName) prog_5_method_16_code (4 : Nat) (Option.none : Option Jvm.ClassFile.FieldType)) ∈ AL := al_t3 115 rfl rfl
theorem k_532 : (Jvm.Cond.methodLink "DealtSecretModel" (98 : Nat) ({ cls := "DealtSecretModel", name := "refuses", desc := "(ZZ)Z" } : Jvm.MethodName)) ∈ AL := al_t3 116 rfl rfl
theorem k_533 : (Jvm.Cond.instanceMethod ({ cls := "DealtSecretModel", name := "refuses", desc := "(ZZ)Z" } : Jvm.MethodName)) ∈ AL := al_t3 118 rfl rfl
theorem k_534 : (Jvm.Cond.code ({ cls := "DealtSecretModel", name := "refuses", desc := "(ZZ)Z" } : Jvm.MethodName) prog_5_method_12_code (3 : Nat) (Option.some Jvm.ClassFile.FieldType.boolean)) ∈ AL := al_t3 119 rfl rfl
theorem k_535 : (Jvm.Cond.methodLink "DealtSecretModel" (102 : Nat) ({ cls := "DealtSecretModel", name := "reduced", desc := "(I)I" } : Jvm.MethodName)) ∈ AL := al_t3 120 rfl rfl
theorem k_536 : (Jvm.Cond.instanceMethod ({ cls := "DealtSecretModel", name := "reduced", desc := "(I)I" } : Jvm.MethodName)) ∈ AL := al_t3 122 rfl rfl
theorem k_537 : (Jvm.Cond.code ({ cls := "DealtSecretModel", name := "reduced", desc := "(I)I" } : Jvm.MethodName) prog_5_method_5_code (3 : Nat) (Option.some Jvm.ClassFile.FieldType.int)) ∈ AL := al_t3 123 rfl rfl
theorem k_538 : (Jvm.Cond.methodLink "DealtSecretLaw" (88 : Nat) ({ cls := "DealtSecretModel", name := "advance", desc := "()I" } : Jvm.MethodName)) ∈ AL := al_t3 124 rfl rfl
theorem k_539 : (Jvm.Cond.instanceMethod ({ cls := "DealtSecretModel", name := "advance", desc := "()I" } : Jvm.MethodName)) ∈ AL := al_t3 125 rfl rfl
theorem k_540 : (Jvm.Cond.selects "DealtSecretModel" ({ cls := "DealtSecretModel", name := "advance", desc := "()I" } : Jvm.MethodName) ({ cls := "DealtSecretModel", name := "advance", desc := "()I" } : Jvm.MethodName)) ∈ AL := al_t3 126 rfl rfl
theorem k_541 : (Jvm.Cond.code ({ cls := "DealtSecretModel", name := "advance", desc := "()I" } : Jvm.MethodName) prog_5_method_18_code (4 : Nat) (Option.some Jvm.ClassFile.FieldType.int)) ∈ AL := al_t3 127 rfl rfl
theorem k_542 : (Jvm.Cond.methodLink "DealtSecretModel" (110 : Nat) ({ cls := "DealtSecretModel", name := "fit", desc := "(III)Z" } : Jvm.MethodName)) ∈ AL := al_t3 128 rfl rfl
theorem k_543 : (Jvm.Cond.instanceMethod ({ cls := "DealtSecretModel", name := "fit", desc := "(III)Z" } : Jvm.MethodName)) ∈ AL := al_t3 130 rfl rfl
theorem k_544 : (Jvm.Cond.code ({ cls := "DealtSecretModel", name := "fit", desc := "(III)Z" } : Jvm.MethodName) prog_5_method_10_code (7 : Nat) (Option.some Jvm.ClassFile.FieldType.boolean)) ∈ AL := al_t3 131 rfl rfl
theorem k_545 : (Jvm.Cond.methodLink "DealtSecretModel" (78 : Nat) ({ cls := "DealtSecretModel", name := "paired", desc := "(II)I" } : Jvm.MethodName)) ∈ AL := al_t3 132 rfl rfl
theorem k_546 : (Jvm.Cond.instanceMethod ({ cls := "DealtSecretModel", name := "paired", desc := "(II)I" } : Jvm.MethodName)) ∈ AL := al_t3 134 rfl rfl
theorem k_547 : (Jvm.Cond.code ({ cls := "DealtSecretModel", name := "paired", desc := "(II)I" } : Jvm.MethodName) prog_5_method_9_code (3 : Nat) (Option.some Jvm.ClassFile.FieldType.int)) ∈ AL := al_t3 135 rfl rfl
theorem k_548 : (Jvm.Cond.methodLink "DealtSecretModel" (114 : Nat) ({ cls := "DealtSecretModel", name := "deal", desc := "()V" } : Jvm.MethodName)) ∈ AL := al_t3 136 rfl rfl
theorem k_549 : (Jvm.Cond.instanceMethod ({ cls := "DealtSecretModel", name := "deal", desc := "()V" } : Jvm.MethodName)) ∈ AL := al_t3 138 rfl rfl
theorem k_550 : (Jvm.Cond.code ({ cls := "DealtSecretModel", name := "deal", desc := "()V" } : Jvm.MethodName) prog_5_method_17_code (2 : Nat) (Option.none : Option Jvm.ClassFile.FieldType)) ∈ AL := al_t3 139 rfl rfl
theorem k_551 : (Jvm.Cond.methodLink "DealtSecretModel" (106 : Nat) ({ cls := "DealtSecretModel", name := "at", desc := "([II)I" } : Jvm.MethodName)) ∈ AL := al_t3 140 rfl rfl
theorem k_552 : (Jvm.Cond.instanceMethod ({ cls := "DealtSecretModel", name := "at", desc := "([II)I" } : Jvm.MethodName)) ∈ AL := al_t3 142 rfl rfl
theorem k_553 : (Jvm.Cond.code ({ cls := "DealtSecretModel", name := "at", desc := "([II)I" } : Jvm.MethodName) prog_5_method_8_code (7 : Nat) (Option.some Jvm.ClassFile.FieldType.int)) ∈ AL := al_t3 143 rfl rfl
theorem k_554 : (Jvm.Cond.methodLink "DealtSecretLaw" (91 : Nat) ({ cls := "DealtSecretModel", name := "tamper", desc := "(III)V" } : Jvm.MethodName)) ∈ AL := al_t3 144 rfl rfl
theorem k_555 : (Jvm.Cond.instanceMethod ({ cls := "DealtSecretModel", name := "tamper", desc := "(III)V" } : Jvm.MethodName)) ∈ AL := al_t3 145 rfl rfl
theorem k_556 : (Jvm.Cond.selects "DealtSecretModel" ({ cls := "DealtSecretModel", name := "tamper", desc := "(III)V" } : Jvm.MethodName) ({ cls := "DealtSecretModel", name := "tamper", desc := "(III)V" } : Jvm.MethodName)) ∈ AL := al_t3 146 rfl rfl
theorem k_557 : (Jvm.Cond.code ({ cls := "DealtSecretModel", name := "tamper", desc := "(III)V" } : Jvm.MethodName) prog_5_method_19_code (4 : Nat) (Option.none : Option Jvm.ClassFile.FieldType)) ∈ AL := al_t3 147 rfl rfl
theorem k_558 : (Jvm.Cond.methodLink "DealtSecretModel" (117 : Nat) ({ cls := "DealtSecretModel", name := "isOne", desc := "(I)Z" } : Jvm.MethodName)) ∈ AL := al_t3 148 rfl rfl
theorem k_559 : (Jvm.Cond.instanceMethod ({ cls := "DealtSecretModel", name := "isOne", desc := "(I)Z" } : Jvm.MethodName)) ∈ AL := al_t3 150 rfl rfl
theorem k_560 : (Jvm.Cond.code ({ cls := "DealtSecretModel", name := "isOne", desc := "(I)Z" } : Jvm.MethodName) prog_5_method_11_code (2 : Nat) (Option.some Jvm.ClassFile.FieldType.boolean)) ∈ AL := al_t3 151 rfl rfl
theorem k_561 : (Jvm.Cond.methodLink "DealtSecretLaw" (95 : Nat) ({ cls := "DealtSecretModel", name := "forge", desc := "(II)V" } : Jvm.MethodName)) ∈ AL := al_t3 152 rfl rfl
theorem k_562 : (Jvm.Cond.instanceMethod ({ cls := "DealtSecretModel", name := "forge", desc := "(II)V" } : Jvm.MethodName)) ∈ AL := al_t3 153 rfl rfl
theorem k_563 : (Jvm.Cond.selects "DealtSecretModel" ({ cls := "DealtSecretModel", name := "forge", desc := "(II)V" } : Jvm.MethodName) ({ cls := "DealtSecretModel", name := "forge", desc := "(II)V" } : Jvm.MethodName)) ∈ AL := al_t3 154 rfl rfl
theorem k_564 : (Jvm.Cond.code ({ cls := "DealtSecretModel", name := "forge", desc := "(II)V" } : Jvm.MethodName) prog_5_method_20_code (3 : Nat) (Option.none : Option Jvm.ClassFile.FieldType)) ∈ AL := al_t3 155 rfl rfl
theorem k_565 : (Jvm.Cond.methodLink "DealtSecretLaw" (99 : Nat) ({ cls := "DealtSecretModel", name := "corrupt", desc := "(I)Z" } : Jvm.MethodName)) ∈ AL := al_t3 156 rfl rfl
theorem k_566 : (Jvm.Cond.instanceMethod ({ cls := "DealtSecretModel", name := "corrupt", desc := "(I)Z" } : Jvm.MethodName)) ∈ AL := al_t3 157 rfl rfl
theorem k_567 : (Jvm.Cond.selects "DealtSecretModel" ({ cls := "DealtSecretModel", name := "corrupt", desc := "(I)Z" } : Jvm.MethodName) ({ cls := "DealtSecretModel", name := "corrupt", desc := "(I)Z" } : Jvm.MethodName)) ∈ AL := al_t3 158 rfl rfl
theorem k_568 : (Jvm.Cond.code ({ cls := "DealtSecretModel", name := "corrupt", desc := "(I)Z" } : Jvm.MethodName) prog_5_method_21_code (2 : Nat) (Option.some Jvm.ClassFile.FieldType.boolean)) ∈ AL := al_t3 159 rfl rfl
theorem k_569 : (Jvm.Cond.methodLink "DealtSecretLaw" (102 : Nat) ({ cls := "DealtSecretModel", name := "accuse", desc := "(I)Z" } : Jvm.MethodName)) ∈ AL := al_t3 160 rfl rfl
theorem k_570 : (Jvm.Cond.instanceMethod ({ cls := "DealtSecretModel", name := "accuse", desc := "(I)Z" } : Jvm.MethodName)) ∈ AL := al_t3 161 rfl rfl
theorem k_571 : (Jvm.Cond.selects "DealtSecretModel" ({ cls := "DealtSecretModel", name := "accuse", desc := "(I)Z" } : Jvm.MethodName) ({ cls := "DealtSecretModel", name := "accuse", desc := "(I)Z" } : Jvm.MethodName)) ∈ AL := al_t3 162 rfl rfl
theorem k_572 : (Jvm.Cond.code ({ cls := "DealtSecretModel", name := "accuse", desc := "(I)Z" } : Jvm.MethodName) prog_5_method_22_code (2 : Nat) (Option.some Jvm.ClassFile.FieldType.boolean)) ∈ AL := al_t3 163 rfl rfl
theorem k_573 : (Jvm.Cond.methodLink "DealtSecretLaw" (106 : Nat) ({ cls := "DealtSecretModel", name := "answer", desc := "(III)Z" } : Jvm.MethodName)) ∈ AL := al_t3 164 rfl rfl
theorem k_574 : (Jvm.Cond.instanceMethod ({ cls := "DealtSecretModel", name := "answer", desc := "(III)Z" } : Jvm.MethodName)) ∈ AL := al_t3 165 rfl rfl
theorem k_575 : (Jvm.Cond.selects "DealtSecretModel" ({ cls := "DealtSecretModel", name := "answer", desc := "(III)Z" } : Jvm.MethodName) ({ cls := "DealtSecretModel", name := "answer", desc := "(III)Z" } : Jvm.MethodName)) ∈ AL := al_t3 166 rfl rfl
theorem k_576 : (Jvm.Cond.code ({ cls := "DealtSecretModel", name := "answer", desc := "(III)Z" } : Jvm.MethodName) prog_5_method_23_code (4 : Nat) (Option.some Jvm.ClassFile.FieldType.boolean)) ∈ AL := al_t3 167 rfl rfl
theorem k_577 : (Jvm.Cond.methodLink "DealtSecretLaw" (109 : Nat) ({ cls := "DealtSecretModel", name := "open", desc := "(I)Z" } : Jvm.MethodName)) ∈ AL := al_t3 168 rfl rfl
theorem k_578 : (Jvm.Cond.instanceMethod ({ cls := "DealtSecretModel", name := "open", desc := "(I)Z" } : Jvm.MethodName)) ∈ AL := al_t3 169 rfl rfl
theorem k_579 : (Jvm.Cond.selects "DealtSecretModel" ({ cls := "DealtSecretModel", name := "open", desc := "(I)Z" } : Jvm.MethodName) ({ cls := "DealtSecretModel", name := "open", desc := "(I)Z" } : Jvm.MethodName)) ∈ AL := al_t3 170 rfl rfl
theorem k_580 : (Jvm.Cond.code ({ cls := "DealtSecretModel", name := "open", desc := "(I)Z" } : Jvm.MethodName) prog_5_method_25_code (2 : Nat) (Option.some Jvm.ClassFile.FieldType.boolean)) ∈ AL := al_t3 171 rfl rfl
theorem k_581 : (Jvm.Cond.methodLink "DealtSecretModel" (129 : Nat) ({ cls := "DealtSecretModel", name := "lay", desc := "(III)Z" } : Jvm.MethodName)) ∈ AL := al_t3 172 rfl rfl
theorem k_582 : (Jvm.Cond.instanceMethod ({ cls := "DealtSecretModel", name := "lay", desc := "(III)Z" } : Jvm.MethodName)) ∈ AL := al_t3 174 rfl rfl
theorem k_583 : (Jvm.Cond.code ({ cls := "DealtSecretModel", name := "lay", desc := "(III)Z" } : Jvm.MethodName) prog_5_method_24_code (4 : Nat) (Option.some Jvm.ClassFile.FieldType.boolean)) ∈ AL := al_t3 175 rfl rfl
theorem k_584 : (Jvm.Cond.methodLink "DealtSecretModel" (120 : Nat) ({ cls := "DealtSecretModel", name := "minus", desc := "(II)I" } : Jvm.MethodName)) ∈ AL := al_t3 176 rfl rfl
theorem k_585 : (Jvm.Cond.instanceMethod ({ cls := "DealtSecretModel", name := "minus", desc := "(II)I" } : Jvm.MethodName)) ∈ AL := al_t3 178 rfl rfl
theorem k_586 : (Jvm.Cond.code ({ cls := "DealtSecretModel", name := "minus", desc := "(II)I" } : Jvm.MethodName) prog_5_method_6_code (3 : Nat) (Option.some Jvm.ClassFile.FieldType.int)) ∈ AL := al_t3 179 rfl rfl
theorem k_587 : (Jvm.Cond.methodLink "DealtSecretModel" (123 : Nat) ({ cls := "DealtSecretModel", name := "over", desc := "(II)I" } : Jvm.MethodName)) ∈ AL := al_t3 180 rfl rfl
theorem k_588 : (Jvm.Cond.instanceMethod ({ cls := "DealtSecretModel", name := "over", desc := "(II)I" } : Jvm.MethodName)) ∈ AL := al_t3 182 rfl rfl
theorem k_589 : (Jvm.Cond.code ({ cls := "DealtSecretModel", name := "over", desc := "(II)I" } : Jvm.MethodName) prog_5_method_7_code (3 : Nat) (Option.some Jvm.ClassFile.FieldType.int)) ∈ AL := al_t3 183 rfl rfl
theorem k_590 : (Jvm.Cond.methodLink "DealtSecretLaw" (112 : Nat) ({ cls := "DealtSecretModel", name := "show", desc := "(III)Z" } : Jvm.MethodName)) ∈ AL := al_t3 184 rfl rfl
theorem k_591 : (Jvm.Cond.instanceMethod ({ cls := "DealtSecretModel", name := "show", desc := "(III)Z" } : Jvm.MethodName)) ∈ AL := al_t3 185 rfl rfl
theorem k_592 : (Jvm.Cond.selects "DealtSecretModel" ({ cls := "DealtSecretModel", name := "show", desc := "(III)Z" } : Jvm.MethodName) ({ cls := "DealtSecretModel", name := "show", desc := "(III)Z" } : Jvm.MethodName)) ∈ AL := al_t3 186 rfl rfl
theorem k_593 : (Jvm.Cond.code ({ cls := "DealtSecretModel", name := "show", desc := "(III)Z" } : Jvm.MethodName) prog_5_method_26_code (4 : Nat) (Option.some Jvm.ClassFile.FieldType.boolean)) ∈ AL := al_t3 187 rfl rfl
theorem k_594 : (Jvm.Cond.methodLink "DealtSecretLaw" (115 : Nat) ({ cls := "DealtSecretModel", name := "secret", desc := "()I" } : Jvm.MethodName)) ∈ AL := al_t3 188 rfl rfl
theorem k_595 : (Jvm.Cond.instanceMethod ({ cls := "DealtSecretModel", name := "secret", desc := "()I" } : Jvm.MethodName)) ∈ AL := al_t3 189 rfl rfl
theorem k_596 : (Jvm.Cond.selects "DealtSecretModel" ({ cls := "DealtSecretModel", name := "secret", desc := "()I" } : Jvm.MethodName) ({ cls := "DealtSecretModel", name := "secret", desc := "()I" } : Jvm.MethodName)) ∈ AL := al_t3 190 rfl rfl
theorem k_597 : (Jvm.Cond.code ({ cls := "DealtSecretModel", name := "secret", desc := "()I" } : Jvm.MethodName) prog_5_method_27_code (3 : Nat) (Option.some Jvm.ClassFile.FieldType.int)) ∈ AL := al_t3 191 rfl rfl
theorem k_598 : (Jvm.Cond.methodLink "DealtSecretModel" (132 : Nat) ({ cls := "DealtSecretModel", name := "atZero", desc := "()I" } : Jvm.MethodName)) ∈ AL := al_t3 192 rfl rfl
theorem k_599 : (Jvm.Cond.instanceMethod ({ cls := "DealtSecretModel", name := "atZero", desc := "()I" } : Jvm.MethodName)) ∈ AL := al_t3 194 rfl rfl
theorem k_600 : (Jvm.Cond.code ({ cls := "DealtSecretModel", name := "atZero", desc := "()I" } : Jvm.MethodName) prog_5_method_28_code (4 : Nat) (Option.some Jvm.ClassFile.FieldType.int)) ∈ AL := al_t3 195 rfl rfl
theorem k_601 : (Jvm.Cond.methodLink "DealtSecretLaw" (118 : Nat) ({ cls := "DealtSecretModel", name := "relation", desc := "()I" } : Jvm.MethodName)) ∈ AL := al_t3 196 rfl rfl
theorem k_602 : (Jvm.Cond.instanceMethod ({ cls := "DealtSecretModel", name := "relation", desc := "()I" } : Jvm.MethodName)) ∈ AL := al_t3 197 rfl rfl
theorem k_603 : (Jvm.Cond.selects "DealtSecretModel" ({ cls := "DealtSecretModel", name := "relation", desc := "()I" } : Jvm.MethodName) ({ cls := "DealtSecretModel", name := "relation", desc := "()I" } : Jvm.MethodName)) ∈ AL := al_t3 198 rfl rfl
theorem k_604 : (Jvm.Cond.code ({ cls := "DealtSecretModel", name := "relation", desc := "()I" } : Jvm.MethodName) prog_5_method_29_code (1 : Nat) (Option.some Jvm.ClassFile.FieldType.int)) ∈ AL := al_t3 199 rfl rfl
theorem k_605 : (Jvm.Cond.methodLink "DealtSecretLaw" (122 : Nat) ({ cls := "DealtSecretModel", name := "stage", desc := "()I" } : Jvm.MethodName)) ∈ AL := al_t3 200 rfl rfl
theorem k_606 : (Jvm.Cond.instanceMethod ({ cls := "DealtSecretModel", name := "stage", desc := "()I" } : Jvm.MethodName)) ∈ AL := al_t3 201 rfl rfl
theorem k_607 : (Jvm.Cond.selects "DealtSecretModel" ({ cls := "DealtSecretModel", name := "stage", desc := "()I" } : Jvm.MethodName) ({ cls := "DealtSecretModel", name := "stage", desc := "()I" } : Jvm.MethodName)) ∈ AL := al_t3 202 rfl rfl
theorem k_608 : (Jvm.Cond.code ({ cls := "DealtSecretModel", name := "stage", desc := "()I" } : Jvm.MethodName) prog_5_method_30_code (1 : Nat) (Option.some Jvm.ClassFile.FieldType.int)) ∈ AL := al_t3 203 rfl rfl
theorem k_609 : (Jvm.Cond.methodLink "DealtSecretLaw" (126 : Nat) ({ cls := "DealtSecretModel", name := "commitment", desc := "(I)I" } : Jvm.MethodName)) ∈ AL := al_t3 204 rfl rfl
theorem k_610 : (Jvm.Cond.instanceMethod ({ cls := "DealtSecretModel", name := "commitment", desc := "(I)I" } : Jvm.MethodName)) ∈ AL := al_t3 205 rfl rfl
theorem k_611 : (Jvm.Cond.selects "DealtSecretModel" ({ cls := "DealtSecretModel", name := "commitment", desc := "(I)I" } : Jvm.MethodName) ({ cls := "DealtSecretModel", name := "commitment", desc := "(I)I" } : Jvm.MethodName)) ∈ AL := al_t3 206 rfl rfl
theorem k_612 : (Jvm.Cond.code ({ cls := "DealtSecretModel", name := "commitment", desc := "(I)I" } : Jvm.MethodName) prog_5_method_31_code (2 : Nat) (Option.some Jvm.ClassFile.FieldType.int)) ∈ AL := al_t3 207 rfl rfl
theorem k_613 : (Jvm.Cond.methodLink "DealtSecretLaw" (131 : Nat) ({ cls := "DealtSecretModel", name := "share", desc := "(II)I" } : Jvm.MethodName)) ∈ AL := al_t3 208 rfl rfl
theorem k_614 : (Jvm.Cond.instanceMethod ({ cls := "DealtSecretModel", name := "share", desc := "(II)I" } : Jvm.MethodName)) ∈ AL := al_t3 209 rfl rfl
theorem k_615 : (Jvm.Cond.selects "DealtSecretModel" ({ cls := "DealtSecretModel", name := "share", desc := "(II)I" } : Jvm.MethodName) ({ cls := "DealtSecretModel", name := "share", desc := "(II)I" } : Jvm.MethodName)) ∈ AL := al_t3 210 rfl rfl
theorem k_616 : (Jvm.Cond.code ({ cls := "DealtSecretModel", name := "share", desc := "(II)I" } : Jvm.MethodName) prog_5_method_32_code (3 : Nat) (Option.some Jvm.ClassFile.FieldType.int)) ∈ AL := al_t3 211 rfl rfl
theorem k_617 : (Jvm.Cond.methodLink "DealtSecretLaw" (135 : Nat) ({ cls := "DealtSecretModel", name := "fits", desc := "(I)Z" } : Jvm.MethodName)) ∈ AL := al_t3 212 rfl rfl
theorem k_618 : (Jvm.Cond.instanceMethod ({ cls := "DealtSecretModel", name := "fits", desc := "(I)Z" } : Jvm.MethodName)) ∈ AL := al_t3 213 rfl rfl
theorem k_619 : (Jvm.Cond.selects "DealtSecretModel" ({ cls := "DealtSecretModel", name := "fits", desc := "(I)Z" } : Jvm.MethodName) ({ cls := "DealtSecretModel", name := "fits", desc := "(I)Z" } : Jvm.MethodName)) ∈ AL := al_t3 214 rfl rfl
theorem k_620 : (Jvm.Cond.code ({ cls := "DealtSecretModel", name := "fits", desc := "(I)Z" } : Jvm.MethodName) prog_5_method_33_code (2 : Nat) (Option.some Jvm.ClassFile.FieldType.boolean)) ∈ AL := al_t3 215 rfl rfl
theorem k_621 : (Jvm.Cond.methodLink "DealtSecretLaw" (139 : Nat) ({ cls := "DealtSecretModel", name := "complaints", desc := "()I" } : Jvm.MethodName)) ∈ AL := al_t3 216 rfl rfl
theorem k_622 : (Jvm.Cond.instanceMethod ({ cls := "DealtSecretModel", name := "complaints", desc := "()I" } : Jvm.MethodName)) ∈ AL := al_t3 217 rfl rfl
theorem k_623 : (Jvm.Cond.selects "DealtSecretModel" ({ cls := "DealtSecretModel", name := "complaints", desc := "()I" } : Jvm.MethodName) ({ cls := "DealtSecretModel", name := "complaints", desc := "()I" } : Jvm.MethodName)) ∈ AL := al_t3 218 rfl rfl
theorem k_624 : (Jvm.Cond.code ({ cls := "DealtSecretModel", name := "complaints", desc := "()I" } : Jvm.MethodName) prog_5_method_34_code (3 : Nat) (Option.some Jvm.ClassFile.FieldType.int)) ∈ AL := al_t3 219 rfl rfl
theorem k_625 : (Jvm.Cond.methodLink "DealtSecretLaw" (143 : Nat) ({ cls := "DealtSecretModel", name := "opened", desc := "()I" } : Jvm.MethodName)) ∈ AL := al_t3 220 rfl rfl
theorem k_626 : (Jvm.Cond.instanceMethod ({ cls := "DealtSecretModel", name := "opened", desc := "()I" } : Jvm.MethodName)) ∈ AL := al_t3 221 rfl rfl
theorem k_627 : (Jvm.Cond.selects "DealtSecretModel" ({ cls := "DealtSecretModel", name := "opened", desc := "()I" } : Jvm.MethodName) ({ cls := "DealtSecretModel", name := "opened", desc := "()I" } : Jvm.MethodName)) ∈ AL := al_t3 222 rfl rfl
theorem k_628 : (Jvm.Cond.code ({ cls := "DealtSecretModel", name := "opened", desc := "()I" } : Jvm.MethodName) prog_5_method_35_code (3 : Nat) (Option.some Jvm.ClassFile.FieldType.int)) ∈ AL := al_t3 223 rfl rfl
theorem k_629 : (Jvm.Cond.arrayClass Jvm.ClassFile.FieldType.long) ∈ AL := al_t3 224 rfl rfl
theorem k_630 : Cond.selects "DealtSecret" ⟨"DealtSecret", "isDealt", "()Z"⟩ ⟨"DealtSecret", "isDealt", "()Z"⟩ ∈ AL := al_ts 0 rfl
theorem k_631 : Cond.selects "DealtSecret" ⟨"DealtSecret", "isCoefficient", "(I)Z"⟩ ⟨"DealtSecret", "isCoefficient", "(I)Z"⟩ ∈ AL := al_ts 1 rfl
theorem k_632 : Cond.selects "DealtSecret" ⟨"DealtSecret", "isParticipant", "(I)Z"⟩ ⟨"DealtSecret", "isParticipant", "(I)Z"⟩ ∈ AL := al_ts 2 rfl
theorem k_633 : Cond.selects "DealtSecret" ⟨"DealtSecret", "isShareRight", "(LDealtSecret$Participant;)Z"⟩ ⟨"DealtSecret", "isShareRight", "(LDealtSecret$Participant;)Z"⟩ ∈ AL := al_ts 3 rfl
theorem k_634 : Cond.selects "DealtSecret" ⟨"DealtSecret", "isPairRight", "(LDealtSecret$Participant;II)Z"⟩ ⟨"DealtSecret", "isPairRight", "(LDealtSecret$Participant;II)Z"⟩ ∈ AL := al_ts 4 rfl
theorem k_635 : Cond.selects "DealtSecret" ⟨"DealtSecret", "publishedAt", "(I)I"⟩ ⟨"DealtSecret", "publishedAt", "(I)I"⟩ ∈ AL := al_ts 5 rfl
theorem k_636 : Cond.selects "java/lang/Throwable" ⟨"java/lang/Throwable", "fillInStackTrace", "(I)Ljava/lang/Throwable;"⟩ ⟨"java/lang/Throwable", "fillInStackTrace", "(I)Ljava/lang/Throwable;"⟩ ∈ AL := al_ts 6 rfl
theorem k_637 : Cond.selects "DealtSecret" ⟨"DealtSecret", "demandStage", "(I)V"⟩ ⟨"DealtSecret", "demandStage", "(I)V"⟩ ∈ AL := al_ts 7 rfl
theorem k_638 : Cond.selects "DealtSecret" ⟨"DealtSecret", "demandCoefficient", "(I)V"⟩ ⟨"DealtSecret", "demandCoefficient", "(I)V"⟩ ∈ AL := al_ts 8 rfl
theorem k_639 : Cond.selects "DealtSecret" ⟨"DealtSecret", "blindNumber", "(I)I"⟩ ⟨"DealtSecret", "blindNumber", "(I)I"⟩ ∈ AL := al_ts 9 rfl
theorem k_640 : Cond.selects "DealtSecret" ⟨"DealtSecret", "publishCommitments", "()V"⟩ ⟨"DealtSecret", "publishCommitments", "()V"⟩ ∈ AL := al_ts 10 rfl
theorem k_641 : Cond.selects "DealtSecret" ⟨"DealtSecret", "sendShares", "()V"⟩ ⟨"DealtSecret", "sendShares", "()V"⟩ ∈ AL := al_ts 11 rfl
theorem k_642 : Cond.selects "DealtSecret" ⟨"DealtSecret", "valueAt", "(I[I)I"⟩ ⟨"DealtSecret", "valueAt", "(I[I)I"⟩ ∈ AL := al_ts 12 rfl
theorem k_643 : Cond.selects "DealtSecret" ⟨"DealtSecret", "raiseComplaints", "()V"⟩ ⟨"DealtSecret", "raiseComplaints", "()V"⟩ ∈ AL := al_ts 13 rfl
theorem k_644 : Cond.selects "DealtSecret" ⟨"DealtSecret", "isEveryComplaintAnswered", "()Z"⟩ ⟨"DealtSecret", "isEveryComplaintAnswered", "()Z"⟩ ∈ AL := al_ts 14 rfl
theorem k_645 : Cond.selects "DealtSecret" ⟨"DealtSecret", "demandParticipant", "(I)V"⟩ ⟨"DealtSecret", "demandParticipant", "(I)V"⟩ ∈ AL := al_ts 15 rfl
theorem k_646 : Cond.selects "DealtSecret" ⟨"DealtSecret", "layOpen", "(LDealtSecret$Participant;II)Z"⟩ ⟨"DealtSecret", "layOpen", "(LDealtSecret$Participant;II)Z"⟩ ∈ AL := al_ts 16 rfl
theorem k_647 : Cond.selects "DealtSecret" ⟨"DealtSecret", "lastOfTheChosen", "()I"⟩ ⟨"DealtSecret", "lastOfTheChosen", "()I"⟩ ∈ AL := al_ts 17 rfl
theorem k_648 : Cond.selects "DealtSecret" ⟨"DealtSecret", "weightAtZero", "(II)I"⟩ ⟨"DealtSecret", "weightAtZero", "(II)I"⟩ ∈ AL := al_ts 18 rfl
theorem k_649 : Cond.selects "DealtSecretModel" ⟨"DealtSecretModel", "refuses", "(ZZ)Z"⟩ ⟨"DealtSecretModel", "refuses", "(ZZ)Z"⟩ ∈ AL := al_ts 19 rfl
theorem k_650 : Cond.selects "DealtSecretModel" ⟨"DealtSecretModel", "reduced", "(I)I"⟩ ⟨"DealtSecretModel", "reduced", "(I)I"⟩ ∈ AL := al_ts 20 rfl
theorem k_651 : Cond.selects "DealtSecretModel" ⟨"DealtSecretModel", "fit", "(III)Z"⟩ ⟨"DealtSecretModel", "fit", "(III)Z"⟩ ∈ AL := al_ts 21 rfl
theorem k_652 : Cond.selects "DealtSecretModel" ⟨"DealtSecretModel", "paired", "(II)I"⟩ ⟨"DealtSecretModel", "paired", "(II)I"⟩ ∈ AL := al_ts 22 rfl
theorem k_653 : Cond.selects "DealtSecretModel" ⟨"DealtSecretModel", "deal", "()V"⟩ ⟨"DealtSecretModel", "deal", "()V"⟩ ∈ AL := al_ts 23 rfl
theorem k_654 : Cond.selects "DealtSecretModel" ⟨"DealtSecretModel", "at", "([II)I"⟩ ⟨"DealtSecretModel", "at", "([II)I"⟩ ∈ AL := al_ts 24 rfl
theorem k_655 : Cond.selects "DealtSecretModel" ⟨"DealtSecretModel", "isOne", "(I)Z"⟩ ⟨"DealtSecretModel", "isOne", "(I)Z"⟩ ∈ AL := al_ts 25 rfl
theorem k_656 : Cond.selects "DealtSecretModel" ⟨"DealtSecretModel", "lay", "(III)Z"⟩ ⟨"DealtSecretModel", "lay", "(III)Z"⟩ ∈ AL := al_ts 26 rfl
theorem k_657 : Cond.selects "DealtSecretModel" ⟨"DealtSecretModel", "minus", "(II)I"⟩ ⟨"DealtSecretModel", "minus", "(II)I"⟩ ∈ AL := al_ts 27 rfl
theorem k_658 : Cond.selects "DealtSecretModel" ⟨"DealtSecretModel", "over", "(II)I"⟩ ⟨"DealtSecretModel", "over", "(II)I"⟩ ∈ AL := al_ts 28 rfl
theorem k_659 : Cond.selects "DealtSecretModel" ⟨"DealtSecretModel", "atZero", "()I"⟩ ⟨"DealtSecretModel", "atZero", "()I"⟩ ∈ AL := al_ts 29 rfl
end
section
theorem al_V {own C : String} {idx n : Nat} {y : MethodName} {c : ByteArray} {r : Option FieldType} (h1 : Cond.methodLink own idx y ∈ AL) (h2 : Cond.instanceMethod y ∈ AL) (h3 : Cond.selects C y y ∈ AL) (h4 : Cond.initialized C ∈ AL) (h5 : Cond.code y c n r ∈ AL) : GoodIn AL (wsV own idx C y (.code y c n r :: AL)) := al_sub (by
  intro w hw
  simp only [wsV, List.cons_append, List.nil_append, List.mem_cons] at hw
  rcases hw with rfl | rfl | rfl | rfl | rfl | h
  · exact h1
  · exact h2
  · exact h3
  · exact h4
  · exact h5
  · exact h)
theorem al_S {own : String} {idx n : Nat} {y : MethodName} {c : ByteArray} {r : Option FieldType} (h1 : Cond.methodLink own idx y ∈ AL) (h2 : Cond.static y ∈ AL) (h3 : Cond.initialized y.cls ∈ AL) (h5 : Cond.code y c n r ∈ AL) : GoodIn AL (va_wsS own idx y (.code y c n r :: AL)) := al_sub (by
  intro w hw
  simp only [va_wsS, List.cons_append, List.nil_append, List.mem_cons] at hw
  rcases hw with rfl | rfl | rfl | rfl | h
  · exact h1
  · exact h2
  · exact h3
  · exact h5
  · exact h)
theorem al_I {n : Nat} {y : MethodName} {c : ByteArray} {r : Option FieldType} (h5 : Cond.code y c n r ∈ AL) : GoodIn AL (.code y c n r :: AL) := al_sub (by
  intro w hw
  rcases List.mem_cons.mp hw with rfl | h
  · exact h5
  · exact h)
def T_G : u_T := fun k => match k with
  | 0 => ("DealtSecret$Group", "p", "I", true)
  | 1 => ("DealtSecret$Group", "q", "I", true)
  | 2 => ("DealtSecret$Group", "g", "I", true)
  | _ => ("DealtSecret$Group", "h", "I", true)
def t_G : Nat → FieldType := fun k => match k with
  | 0 => .int
  | 1 => .int
  | 2 => .int
  | _ => .int
theorem n_G : ∀ a, a < 4 → ∀ b, b < 4 → a ≠ b → (T_G a).2.1 ≠ (T_G b).2.1 := by decide +kernel
theorem t_G_ok : ∀ k, k < 4 → parseFieldDescriptor (T_G k).2.2.1 = some (t_G k) := by decide +kernel
theorem i_G : ∀ w ∈ u_ws "DealtSecret$Group" T_G 4, w ∈ AL := by
  show ∀ w ∈ [u_lay "DealtSecret$Group" T_G 0, u_lay "DealtSecret$Group" T_G 1, u_lay "DealtSecret$Group" T_G 2, u_lay "DealtSecret$Group" T_G 3], w ∈ AL
  exact List.forall_mem_cons.mpr ⟨k_50, List.forall_mem_cons.mpr ⟨k_52, List.forall_mem_cons.mpr ⟨k_54, List.forall_mem_cons.mpr ⟨k_56, fun _ h => absurd h List.not_mem_nil⟩⟩⟩⟩
def T_P : u_T := fun k => match k with
  | 0 => ("DealtSecret$Participant", "number", "I", true)
  | 1 => ("DealtSecret$Participant", "u", "I", false)
  | 2 => ("DealtSecret$Participant", "v", "I", false)
  | 3 => ("DealtSecret$Participant", "corrupt", "Z", false)
  | 4 => ("DealtSecret$Participant", "complains", "Z", false)
  | 5 => ("DealtSecret$Participant", "answered", "Z", false)
  | 6 => ("DealtSecret$Participant", "kept", "Z", false)
  | 7 => ("DealtSecret$Participant", "keptU", "I", false)
  | _ => ("DealtSecret$Participant", "keptV", "I", false)
def t_P : Nat → FieldType := fun k => match k with
  | 0 => .int
  | 1 => .int
  | 2 => .int
  | 3 => .boolean
  | 4 => .boolean
  | 5 => .boolean
  | 6 => .boolean
  | 7 => .int
  | _ => .int
theorem n_P : ∀ a, a < 9 → ∀ b, b < 9 → a ≠ b → (T_P a).2.1 ≠ (T_P b).2.1 := by decide +kernel
theorem t_P_ok : ∀ k, k < 9 → parseFieldDescriptor (T_P k).2.2.1 = some (t_P k) := by decide +kernel
theorem i_P : ∀ w ∈ u_ws "DealtSecret$Participant" T_P 9, w ∈ AL := by
  show ∀ w ∈ [u_lay "DealtSecret$Participant" T_P 0, u_lay "DealtSecret$Participant" T_P 1, u_lay "DealtSecret$Participant" T_P 2, u_lay "DealtSecret$Participant" T_P 3, u_lay "DealtSecret$Participant" T_P 4, u_lay "DealtSecret$Participant" T_P 5, u_lay "DealtSecret$Participant" T_P 6, u_lay "DealtSecret$Participant" T_P 7, u_lay "DealtSecret$Participant" T_P 8], w ∈ AL
  exact List.forall_mem_cons.mpr ⟨k_82, List.forall_mem_cons.mpr ⟨k_84, List.forall_mem_cons.mpr ⟨k_86, List.forall_mem_cons.mpr ⟨k_88, List.forall_mem_cons.mpr ⟨k_90, List.forall_mem_cons.mpr ⟨k_92, List.forall_mem_cons.mpr ⟨k_94, List.forall_mem_cons.mpr ⟨k_96, List.forall_mem_cons.mpr ⟨k_98, fun _ h => absurd h List.not_mem_nil⟩⟩⟩⟩⟩⟩⟩⟩⟩
def T_C : u_T := fun k => match k with
  | 0 => ("DealtSecret", "group", "LDealtSecret$Group;", true)
  | 1 => ("DealtSecret", "a", "[I", true)
  | 2 => ("DealtSecret", "b", "[I", true)
  | 3 => ("DealtSecret", "published", "[I", true)
  | 4 => ("DealtSecret", "participants", "[LDealtSecret$Participant;", true)
  | 5 => ("DealtSecret", "stage", "I", false)
  | 6 => ("DealtSecret", "n", "I", false)
  | 7 => ("DealtSecret", "t", "I", false)
  | 8 => ("DealtSecret", "blind", "Z", false)
  | 9 => ("DealtSecret", "related", "Z", false)
  | _ => ("DealtSecret", "relation", "I", false)
def t_C : Nat → FieldType := fun k => match k with
  | 0 => .object "DealtSecret$Group"
  | 1 => .array .int
  | 2 => .array .int
  | 3 => .array .int
  | 4 => .array (.object "DealtSecret$Participant")
  | 5 => .int
  | 6 => .int
  | 7 => .int
  | 8 => .boolean
  | 9 => .boolean
  | _ => .int
theorem n_C : ∀ a, a < 11 → ∀ b, b < 11 → a ≠ b → (T_C a).2.1 ≠ (T_C b).2.1 := by decide +kernel
theorem t_C_ok : ∀ k, k < 11 → parseFieldDescriptor (T_C k).2.2.1 = some (t_C k) := by decide +kernel
theorem i_C : ∀ w ∈ u_ws "DealtSecret" T_C 11, w ∈ AL := by
  show ∀ w ∈ [u_lay "DealtSecret" T_C 0, u_lay "DealtSecret" T_C 1, u_lay "DealtSecret" T_C 2, u_lay "DealtSecret" T_C 3, u_lay "DealtSecret" T_C 4, u_lay "DealtSecret" T_C 5, u_lay "DealtSecret" T_C 6, u_lay "DealtSecret" T_C 7, u_lay "DealtSecret" T_C 8, u_lay "DealtSecret" T_C 9, u_lay "DealtSecret" T_C 10], w ∈ AL
  exact List.forall_mem_cons.mpr ⟨k_112, List.forall_mem_cons.mpr ⟨k_114, List.forall_mem_cons.mpr ⟨k_116, List.forall_mem_cons.mpr ⟨k_118, List.forall_mem_cons.mpr ⟨k_120, List.forall_mem_cons.mpr ⟨k_122, List.forall_mem_cons.mpr ⟨k_124, List.forall_mem_cons.mpr ⟨k_126, List.forall_mem_cons.mpr ⟨k_128, List.forall_mem_cons.mpr ⟨k_130, List.forall_mem_cons.mpr ⟨k_132, fun _ h => absurd h List.not_mem_nil⟩⟩⟩⟩⟩⟩⟩⟩⟩⟩⟩
def T_M : u_T := fun k => match k with
  | 0 => ("DealtSecretModel", "p", "I", true)
  | 1 => ("DealtSecretModel", "q", "I", true)
  | 2 => ("DealtSecretModel", "g", "I", true)
  | 3 => ("DealtSecretModel", "h", "I", true)
  | 4 => ("DealtSecretModel", "stage", "I", false)
  | 5 => ("DealtSecretModel", "thrown", "I", false)
  | 6 => ("DealtSecretModel", "n", "I", false)
  | 7 => ("DealtSecretModel", "t", "I", false)
  | 8 => ("DealtSecretModel", "blind", "Z", false)
  | 9 => ("DealtSecretModel", "a", "[I", true)
  | 10 => ("DealtSecretModel", "b", "[I", true)
  | 11 => ("DealtSecretModel", "c", "[I", true)
  | 12 => ("DealtSecretModel", "corrupt", "[Z", true)
  | 13 => ("DealtSecretModel", "complains", "[Z", true)
  | 14 => ("DealtSecretModel", "answered", "[Z", true)
  | 15 => ("DealtSecretModel", "first", "[I", true)
  | 16 => ("DealtSecretModel", "second", "[I", true)
  | 17 => ("DealtSecretModel", "kept", "[Z", true)
  | 18 => ("DealtSecretModel", "keptFirst", "[I", true)
  | 19 => ("DealtSecretModel", "keptSecond", "[I", true)
  | 20 => ("DealtSecretModel", "related", "Z", false)
  | 21 => ("DealtSecretModel", "relation", "I", false)
  | 22 => ("DealtSecretModel", "place", "[I", true)
  | _ => ("DealtSecretModel", "value", "[I", true)
def t_M : Nat → FieldType := fun k => match k with
  | 0 => .int
  | 1 => .int
  | 2 => .int
  | 3 => .int
  | 4 => .int
  | 5 => .int
  | 6 => .int
  | 7 => .int
  | 8 => .boolean
  | 9 => .array .int
  | 10 => .array .int
  | 11 => .array .int
  | 12 => .array .boolean
  | 13 => .array .boolean
  | 14 => .array .boolean
  | 15 => .array .int
  | 16 => .array .int
  | 17 => .array .boolean
  | 18 => .array .int
  | 19 => .array .int
  | 20 => .boolean
  | 21 => .int
  | 22 => .array .int
  | _ => .array .int
theorem n_M : ∀ a, a < 24 → ∀ b, b < 24 → a ≠ b → (T_M a).2.1 ≠ (T_M b).2.1 := by decide +kernel
theorem t_M_ok : ∀ k, k < 24 → parseFieldDescriptor (T_M k).2.2.1 = some (t_M k) := by decide +kernel
theorem i_M : ∀ w ∈ u_ws "DealtSecretModel" T_M 24, w ∈ AL := by
  show ∀ w ∈ [u_lay "DealtSecretModel" T_M 0, u_lay "DealtSecretModel" T_M 1, u_lay "DealtSecretModel" T_M 2, u_lay "DealtSecretModel" T_M 3, u_lay "DealtSecretModel" T_M 4, u_lay "DealtSecretModel" T_M 5, u_lay "DealtSecretModel" T_M 6, u_lay "DealtSecretModel" T_M 7, u_lay "DealtSecretModel" T_M 8, u_lay "DealtSecretModel" T_M 9, u_lay "DealtSecretModel" T_M 10, u_lay "DealtSecretModel" T_M 11, u_lay "DealtSecretModel" T_M 12, u_lay "DealtSecretModel" T_M 13, u_lay "DealtSecretModel" T_M 14, u_lay "DealtSecretModel" T_M 15, u_lay "DealtSecretModel" T_M 16, u_lay "DealtSecretModel" T_M 17, u_lay "DealtSecretModel" T_M 18, u_lay "DealtSecretModel" T_M 19, u_lay "DealtSecretModel" T_M 20, u_lay "DealtSecretModel" T_M 21, u_lay "DealtSecretModel" T_M 22, u_lay "DealtSecretModel" T_M 23], w ∈ AL
  exact List.forall_mem_cons.mpr ⟨k_467, List.forall_mem_cons.mpr ⟨k_469, List.forall_mem_cons.mpr ⟨k_471, List.forall_mem_cons.mpr ⟨k_473, List.forall_mem_cons.mpr ⟨k_475, List.forall_mem_cons.mpr ⟨k_477, List.forall_mem_cons.mpr ⟨k_479, List.forall_mem_cons.mpr ⟨k_481, List.forall_mem_cons.mpr ⟨k_483, List.forall_mem_cons.mpr ⟨k_485, List.forall_mem_cons.mpr ⟨k_487, List.forall_mem_cons.mpr ⟨k_489, List.forall_mem_cons.mpr ⟨k_491, List.forall_mem_cons.mpr ⟨k_493, List.forall_mem_cons.mpr ⟨k_495, List.forall_mem_cons.mpr ⟨k_497, List.forall_mem_cons.mpr ⟨k_499, List.forall_mem_cons.mpr ⟨k_501, List.forall_mem_cons.mpr ⟨k_503, List.forall_mem_cons.mpr ⟨k_505, List.forall_mem_cons.mpr ⟨k_507, List.forall_mem_cons.mpr ⟨k_509, List.forall_mem_cons.mpr ⟨k_511, List.forall_mem_cons.mpr ⟨k_513, fun _ h => absurd h List.not_mem_nil⟩⟩⟩⟩⟩⟩⟩⟩⟩⟩⟩⟩⟩⟩⟩⟩⟩⟩⟩⟩⟩⟩⟩⟩
abbrev cls : List vw_C := [("DealtSecret$Group", T_G, 4), ("DealtSecret$Participant", T_P, 9), ("DealtSecret", T_C, 11), ("DealtSecretModel", T_M, 24)]
def y_C_init : MethodName := ⟨"DealtSecret", "<init>", "(IIII)V"⟩
abbrev b_C_init : ByteArray := prog_1_method_1_code
def ws_C_init : List Cond := .code y_C_init b_C_init 6 none :: AL
def y_G_told : MethodName := ⟨"DealtSecret$Group", "told", "(IIII)LDealtSecret$Group;"⟩
abbrev b_G_told : ByteArray := prog_2_method_2_code
def ws_G_told : List Cond := .code y_G_told b_G_told 4 (some (.object "DealtSecret$Group")) :: AL
def y_G_isSound : MethodName := ⟨"DealtSecret$Group", "isSound", "(IIII)Z"⟩
abbrev b_G_isSound : ByteArray := prog_2_method_3_code
def ws_G_isSound : List Cond := .code y_G_isSound b_G_isSound 4 (some .boolean) :: AL
def y_G_isElement : MethodName := ⟨"DealtSecret$Group", "isElement", "(III)Z"⟩
abbrev b_G_isElement : ByteArray := prog_2_method_4_code
def ws_G_isElement : List Cond := .code y_G_isElement b_G_isElement 3 (some .boolean) :: AL
def y_G_powerModulo : MethodName := ⟨"DealtSecret$Group", "powerModulo", "(III)I"⟩
abbrev b_G_powerModulo : ByteArray := prog_2_method_6_code
def ws_G_powerModulo : List Cond := .code y_G_powerModulo b_G_powerModulo 8 (some .int) :: AL
def y_G_isPrime : MethodName := ⟨"DealtSecret$Group", "isPrime", "(I)Z"⟩
abbrev b_G_isPrime : ByteArray := prog_2_method_5_code
def ws_G_isPrime : List Cond := .code y_G_isPrime b_G_isPrime 2 (some .boolean) :: AL
def y_G_init : MethodName := ⟨"DealtSecret$Group", "<init>", "(IIII)V"⟩
abbrev b_G_init : ByteArray := prog_2_method_1_code
def ws_G_init : List Cond := .code y_G_init b_G_init 5 none :: AL
def y_P_init : MethodName := ⟨"DealtSecret$Participant", "<init>", "(I)V"⟩
abbrev b_P_init : ByteArray := prog_3_method_1_code
def ws_P_init : List Cond := .code y_P_init b_P_init 2 none :: AL
def y_C_group : MethodName := ⟨"DealtSecret", "group", "(I)I"⟩
abbrev b_C_group : ByteArray := prog_1_method_2_code
def ws_C_group : List Cond := .code y_C_group b_C_group 2 (some .int) :: AL
def y_C_stage : MethodName := ⟨"DealtSecret", "stage", "()I"⟩
abbrev b_C_stage : ByteArray := prog_1_method_15_code
def ws_C_stage : List Cond := .code y_C_stage b_C_stage 1 (some .int) :: AL
def y_C_commitment : MethodName := ⟨"DealtSecret", "commitment", "(I)I"⟩
abbrev b_C_commitment : ByteArray := prog_1_method_16_code
def ws_C_commitment : List Cond := .code y_C_commitment b_C_commitment 2 (some .int) :: AL
def y_C_isDealt : MethodName := ⟨"DealtSecret", "isDealt", "()Z"⟩
abbrev b_C_isDealt : ByteArray := prog_1_method_26_code
def ws_C_isDealt : List Cond := .code y_C_isDealt b_C_isDealt 1 (some .boolean) :: AL
def y_C_isCoefficient : MethodName := ⟨"DealtSecret", "isCoefficient", "(I)Z"⟩
abbrev b_C_isCoefficient : ByteArray := prog_1_method_25_code
def ws_C_isCoefficient : List Cond := .code y_C_isCoefficient b_C_isCoefficient 2 (some .boolean) :: AL
def y_C_share : MethodName := ⟨"DealtSecret", "share", "(II)I"⟩
abbrev b_C_share : ByteArray := prog_1_method_17_code
def ws_C_share : List Cond := .code y_C_share b_C_share 3 (some .int) :: AL
def y_C_isParticipant : MethodName := ⟨"DealtSecret", "isParticipant", "(I)Z"⟩
abbrev b_C_isParticipant : ByteArray := prog_1_method_24_code
def ws_C_isParticipant : List Cond := .code y_C_isParticipant b_C_isParticipant 2 (some .boolean) :: AL
def y_C_fits : MethodName := ⟨"DealtSecret", "fits", "(I)Z"⟩
abbrev b_C_fits : ByteArray := prog_1_method_18_code
def ws_C_fits : List Cond := .code y_C_fits b_C_fits 2 (some .boolean) :: AL
def y_C_isShareRight : MethodName := ⟨"DealtSecret", "isShareRight", "(LDealtSecret$Participant;)Z"⟩
abbrev b_C_isShareRight : ByteArray := prog_1_method_33_code
def ws_C_isShareRight : List Cond := .code y_C_isShareRight b_C_isShareRight 2 (some .boolean) :: AL
def y_C_isPairRight : MethodName := ⟨"DealtSecret", "isPairRight", "(LDealtSecret$Participant;II)Z"⟩
abbrev b_C_isPairRight : ByteArray := prog_1_method_34_code
def ws_C_isPairRight : List Cond := .code y_C_isPairRight b_C_isPairRight 4 (some .boolean) :: AL
def y_G_commit : MethodName := ⟨"DealtSecret$Group", "commit", "(II)I"⟩
abbrev b_G_commit : ByteArray := prog_2_method_7_code
def ws_G_commit : List Cond := .code y_G_commit b_G_commit 3 (some .int) :: AL
def y_G_power : MethodName := ⟨"DealtSecret$Group", "power", "(II)I"⟩
abbrev b_G_power : ByteArray := prog_2_method_8_code
def ws_G_power : List Cond := .code y_G_power b_G_power 3 (some .int) :: AL
def y_G_product : MethodName := ⟨"DealtSecret$Group", "product", "(II)I"⟩
abbrev b_G_product : ByteArray := prog_2_method_9_code
def ws_G_product : List Cond := .code y_G_product b_G_product 3 (some .int) :: AL
def y_C_publishedAt : MethodName := ⟨"DealtSecret", "publishedAt", "(I)I"⟩
abbrev b_C_publishedAt : ByteArray := prog_1_method_35_code
def ws_C_publishedAt : List Cond := .code y_C_publishedAt b_C_publishedAt 4 (some .int) :: AL
def y_C_complaints : MethodName := ⟨"DealtSecret", "complaints", "()I"⟩
abbrev b_C_complaints : ByteArray := prog_1_method_19_code
def ws_C_complaints : List Cond := .code y_C_complaints b_C_complaints 3 (some .int) :: AL
def y_C_opened : MethodName := ⟨"DealtSecret", "opened", "()I"⟩
abbrev b_C_opened : ByteArray := prog_1_method_20_code
def ws_C_opened : List Cond := .code y_C_opened b_C_opened 3 (some .int) :: AL
def y_L_cell : MethodName := ⟨"DealtSecretLaw", "cell", "([II)I"⟩
abbrev b_L_cell : ByteArray := method_2_code
def ws_L_cell : List Cond := .code y_L_cell b_L_cell 2 (some .int) :: AL
def y_L_begin : MethodName := ⟨"DealtSecretLaw", "begin", "(LDealtSecret;IIZ)I"⟩
abbrev b_L_begin : ByteArray := method_3_code
def ws_L_begin : List Cond := .codeWith y_L_begin b_L_begin 5 (some .int) [(0, 7, 10, 13)] :: AL
def y_C_begin : MethodName := ⟨"DealtSecret", "begin", "(IIZ)V"⟩
abbrev b_C_begin : ByteArray := prog_1_method_3_code
def ws_C_begin : List Cond := .code y_C_begin b_C_begin 5 none :: AL
def y_J_fill : MethodName := ⟨"java/util/Arrays", "fill", "([II)V"⟩
abbrev b_J_fill : ByteArray := prog_13_method_103_code
def ws_J_fill : List Cond := .code y_J_fill b_J_fill 4 none :: AL
def y_P_startAnew : MethodName := ⟨"DealtSecret$Participant", "startAnew", "()V"⟩
abbrev b_P_startAnew : ByteArray := prog_3_method_2_code
def ws_P_startAnew : List Cond := .code y_P_startAnew b_P_startAnew 1 none :: AL
def y_L_coefficient : MethodName := ⟨"DealtSecretLaw", "coefficient", "(LDealtSecret;III)I"⟩
abbrev b_L_coefficient : ByteArray := method_4_code
def ws_L_coefficient : List Cond := .codeWith y_L_coefficient b_L_coefficient 5 (some .int) [(0, 7, 10, 19), (0, 7, 14, 13)] :: AL
def y_C_coefficient : MethodName := ⟨"DealtSecret", "coefficient", "(III)V"⟩
abbrev b_C_coefficient : ByteArray := prog_1_method_4_code
def ws_C_coefficient : List Cond := .code y_C_coefficient b_C_coefficient 4 none :: AL
def y_C_demandStage : MethodName := ⟨"DealtSecret", "demandStage", "(I)V"⟩
abbrev b_C_demandStage : ByteArray := prog_1_method_21_code
def ws_C_demandStage : List Cond := .code y_C_demandStage b_C_demandStage 2 none :: AL
def y_C_demandCoefficient : MethodName := ⟨"DealtSecret", "demandCoefficient", "(I)V"⟩
abbrev b_C_demandCoefficient : ByteArray := prog_1_method_23_code
def ws_C_demandCoefficient : List Cond := .code y_C_demandCoefficient b_C_demandCoefficient 2 none :: AL
def y_G_number : MethodName := ⟨"DealtSecret$Group", "number", "(I)I"⟩
abbrev b_G_number : ByteArray := prog_2_method_10_code
def ws_G_number : List Cond := .code y_G_number b_G_number 2 (some .int) :: AL
def y_J_floorMod : MethodName := ⟨"java/lang/Math", "floorMod", "(II)I"⟩
abbrev b_J_floorMod : ByteArray := prog_9_method_50_code
def ws_J_floorMod : List Cond := .code y_J_floorMod b_J_floorMod 3 (some .int) :: AL
def y_C_blindNumber : MethodName := ⟨"DealtSecret", "blindNumber", "(I)I"⟩
abbrev b_C_blindNumber : ByteArray := prog_1_method_27_code
def ws_C_blindNumber : List Cond := .code y_C_blindNumber b_C_blindNumber 2 (some .int) :: AL
def y_L_advance : MethodName := ⟨"DealtSecretLaw", "advance", "(LDealtSecret;[J)I"⟩
abbrev b_L_advance : ByteArray := method_5_code
def ws_L_advance : List Cond := .codeWith y_L_advance b_L_advance 3 (some .int) [(0, 8, 11, 19)] :: AL
def y_C_advance : MethodName := ⟨"DealtSecret", "advance", "()I"⟩
abbrev b_C_advance : ByteArray := prog_1_method_5_code
def ws_C_advance : List Cond := .code y_C_advance b_C_advance 1 (some .int) :: AL
def y_C_publishCommitments : MethodName := ⟨"DealtSecret", "publishCommitments", "()V"⟩
abbrev b_C_publishCommitments : ByteArray := prog_1_method_28_code
def ws_C_publishCommitments : List Cond := .code y_C_publishCommitments b_C_publishCommitments 2 none :: AL
def y_C_sendShares : MethodName := ⟨"DealtSecret", "sendShares", "()V"⟩
abbrev b_C_sendShares : ByteArray := prog_1_method_29_code
def ws_C_sendShares : List Cond := .code y_C_sendShares b_C_sendShares 2 none :: AL
def y_C_valueAt : MethodName := ⟨"DealtSecret", "valueAt", "(I[I)I"⟩
abbrev b_C_valueAt : ByteArray := prog_1_method_30_code
def ws_C_valueAt : List Cond := .code y_C_valueAt b_C_valueAt 5 (some .int) :: AL
def y_G_times : MethodName := ⟨"DealtSecret$Group", "times", "(II)I"⟩
abbrev b_G_times : ByteArray := prog_2_method_13_code
def ws_G_times : List Cond := .code y_G_times b_G_times 3 (some .int) :: AL
def y_G_plus : MethodName := ⟨"DealtSecret$Group", "plus", "(II)I"⟩
abbrev b_G_plus : ByteArray := prog_2_method_11_code
def ws_G_plus : List Cond := .code y_G_plus b_G_plus 3 (some .int) :: AL
def y_P_receive : MethodName := ⟨"DealtSecret$Participant", "receive", "(II)V"⟩
abbrev b_P_receive : ByteArray := prog_3_method_3_code
def ws_P_receive : List Cond := .code y_P_receive b_P_receive 3 none :: AL
def y_C_raiseComplaints : MethodName := ⟨"DealtSecret", "raiseComplaints", "()V"⟩
abbrev b_C_raiseComplaints : ByteArray := prog_1_method_31_code
def ws_C_raiseComplaints : List Cond := .code y_C_raiseComplaints b_C_raiseComplaints 3 none :: AL
def y_C_isEveryComplaintAnswered : MethodName := ⟨"DealtSecret", "isEveryComplaintAnswered", "()Z"⟩
abbrev b_C_isEveryComplaintAnswered : ByteArray := prog_1_method_32_code
def ws_C_isEveryComplaintAnswered : List Cond := .code y_C_isEveryComplaintAnswered b_C_isEveryComplaintAnswered 2 (some .boolean) :: AL
def y_L_tamper : MethodName := ⟨"DealtSecretLaw", "tamper", "(LDealtSecret;III)I"⟩
abbrev b_L_tamper : ByteArray := method_6_code
def ws_L_tamper : List Cond := .codeWith y_L_tamper b_L_tamper 5 (some .int) [(0, 7, 10, 19), (0, 7, 14, 13)] :: AL
def y_C_tamper : MethodName := ⟨"DealtSecret", "tamper", "(III)V"⟩
abbrev b_C_tamper : ByteArray := prog_1_method_6_code
def ws_C_tamper : List Cond := .code y_C_tamper b_C_tamper 4 none :: AL
def y_C_demandParticipant : MethodName := ⟨"DealtSecret", "demandParticipant", "(I)V"⟩
abbrev b_C_demandParticipant : ByteArray := prog_1_method_22_code
def ws_C_demandParticipant : List Cond := .code y_C_demandParticipant b_C_demandParticipant 2 none :: AL
def y_L_forge : MethodName := ⟨"DealtSecretLaw", "forge", "(LDealtSecret;II)I"⟩
abbrev b_L_forge : ByteArray := method_7_code
def ws_L_forge : List Cond := .codeWith y_L_forge b_L_forge 4 (some .int) [(0, 6, 9, 19), (0, 6, 12, 13)] :: AL
def y_C_forge : MethodName := ⟨"DealtSecret", "forge", "(II)V"⟩
abbrev b_C_forge : ByteArray := prog_1_method_7_code
def ws_C_forge : List Cond := .code y_C_forge b_C_forge 3 none :: AL
def y_L_corrupt : MethodName := ⟨"DealtSecretLaw", "corrupt", "(LDealtSecret;I[J)I"⟩
abbrev b_L_corrupt : ByteArray := method_8_code
def ws_L_corrupt : List Cond := .codeWith y_L_corrupt b_L_corrupt 4 (some .int) [(0, 16, 19, 19), (0, 16, 22, 13)] :: AL
def y_C_corrupt : MethodName := ⟨"DealtSecret", "corrupt", "(I)Z"⟩
abbrev b_C_corrupt : ByteArray := prog_1_method_8_code
def ws_C_corrupt : List Cond := .code y_C_corrupt b_C_corrupt 4 (some .boolean) :: AL
def y_L_accuse : MethodName := ⟨"DealtSecretLaw", "accuse", "(LDealtSecret;I[J)I"⟩
abbrev b_L_accuse : ByteArray := method_9_code
def ws_L_accuse : List Cond := .codeWith y_L_accuse b_L_accuse 4 (some .int) [(0, 16, 19, 19), (0, 16, 22, 13)] :: AL
def y_C_accuse : MethodName := ⟨"DealtSecret", "accuse", "(I)Z"⟩
abbrev b_C_accuse : ByteArray := prog_1_method_9_code
def ws_C_accuse : List Cond := .code y_C_accuse b_C_accuse 3 (some .boolean) :: AL
def y_L_answer : MethodName := ⟨"DealtSecretLaw", "answer", "(LDealtSecret;III[J)I"⟩
abbrev b_L_answer : ByteArray := method_10_code
def ws_L_answer : List Cond := .codeWith y_L_answer b_L_answer 6 (some .int) [(0, 19, 22, 19), (0, 19, 26, 13), (0, 19, 30, 43)] :: AL
def y_C_answer : MethodName := ⟨"DealtSecret", "answer", "(III)Z"⟩
abbrev b_C_answer : ByteArray := prog_1_method_10_code
def ws_C_answer : List Cond := .code y_C_answer b_C_answer 5 (some .boolean) :: AL
def y_L_open : MethodName := ⟨"DealtSecretLaw", "open", "(LDealtSecret;I[J)I"⟩
abbrev b_L_open : ByteArray := method_11_code
def ws_L_open : List Cond := .codeWith y_L_open b_L_open 4 (some .int) [(0, 16, 19, 19), (0, 16, 22, 13)] :: AL
def y_C_open : MethodName := ⟨"DealtSecret", "open", "(I)Z"⟩
abbrev b_C_open : ByteArray := prog_1_method_11_code
def ws_C_open : List Cond := .code y_C_open b_C_open 3 (some .boolean) :: AL
def y_C_layOpen : MethodName := ⟨"DealtSecret", "layOpen", "(LDealtSecret$Participant;II)Z"⟩
abbrev b_C_layOpen : ByteArray := prog_1_method_36_code
def ws_C_layOpen : List Cond := .code y_C_layOpen b_C_layOpen 4 (some .boolean) :: AL
def y_P_keep : MethodName := ⟨"DealtSecret$Participant", "keep", "(II)V"⟩
abbrev b_P_keep : ByteArray := prog_3_method_4_code
def ws_P_keep : List Cond := .code y_P_keep b_P_keep 3 none :: AL
def y_G_minus : MethodName := ⟨"DealtSecret$Group", "minus", "(II)I"⟩
abbrev b_G_minus : ByteArray := prog_2_method_12_code
def ws_G_minus : List Cond := .code y_G_minus b_G_minus 3 (some .int) :: AL
def y_G_quotient : MethodName := ⟨"DealtSecret$Group", "quotient", "(II)I"⟩
abbrev b_G_quotient : ByteArray := prog_2_method_14_code
def ws_G_quotient : List Cond := .code y_G_quotient b_G_quotient 3 (some .int) :: AL
def y_L_show : MethodName := ⟨"DealtSecretLaw", "show", "(LDealtSecret;III[J)I"⟩
abbrev b_L_show : ByteArray := method_12_code
def ws_L_show : List Cond := .codeWith y_L_show b_L_show 6 (some .int) [(0, 19, 22, 19), (0, 19, 26, 13)] :: AL
def y_C_show : MethodName := ⟨"DealtSecret", "show", "(III)Z"⟩
abbrev b_C_show : ByteArray := prog_1_method_12_code
def ws_C_show : List Cond := .code y_C_show b_C_show 4 (some .boolean) :: AL
def y_L_secret : MethodName := ⟨"DealtSecretLaw", "secret", "(LDealtSecret;[J)I"⟩
abbrev b_L_secret : ByteArray := method_13_code
def ws_L_secret : List Cond := .codeWith y_L_secret b_L_secret 3 (some .int) [(0, 8, 11, 19), (0, 8, 14, 43)] :: AL
def y_C_secret : MethodName := ⟨"DealtSecret", "secret", "()I"⟩
abbrev b_C_secret : ByteArray := prog_1_method_13_code
def ws_C_secret : List Cond := .code y_C_secret b_C_secret 5 (some .int) :: AL
def y_C_lastOfTheChosen : MethodName := ⟨"DealtSecret", "lastOfTheChosen", "()I"⟩
abbrev b_C_lastOfTheChosen : ByteArray := prog_1_method_37_code
def ws_C_lastOfTheChosen : List Cond := .code y_C_lastOfTheChosen b_C_lastOfTheChosen 3 (some .int) :: AL
def y_C_weightAtZero : MethodName := ⟨"DealtSecret", "weightAtZero", "(II)I"⟩
abbrev b_C_weightAtZero : ByteArray := prog_1_method_38_code
def ws_C_weightAtZero : List Cond := .code y_C_weightAtZero b_C_weightAtZero 6 (some .int) :: AL
def y_L_relation : MethodName := ⟨"DealtSecretLaw", "relation", "(LDealtSecret;[J)I"⟩
abbrev b_L_relation : ByteArray := method_14_code
def ws_L_relation : List Cond := .codeWith y_L_relation b_L_relation 3 (some .int) [(0, 8, 11, 19), (0, 8, 14, 43)] :: AL
def y_C_relation : MethodName := ⟨"DealtSecret", "relation", "()I"⟩
abbrev b_C_relation : ByteArray := prog_1_method_14_code
def ws_C_relation : List Cond := .code y_C_relation b_C_relation 1 (some .int) :: AL
def y_M_init : MethodName := ⟨"DealtSecretModel", "<init>", "(IIII)V"⟩
abbrev b_M_init : ByteArray := prog_5_method_1_code
def ws_M_init : List Cond := .code y_M_init b_M_init 6 none :: AL
def y_M_prime : MethodName := ⟨"DealtSecretModel", "prime", "(I)Z"⟩
abbrev b_M_prime : ByteArray := prog_5_method_2_code
def ws_M_prime : List Cond := .code y_M_prime b_M_prime 2 (some .boolean) :: AL
def y_M_power : MethodName := ⟨"DealtSecretModel", "power", "(III)I"⟩
abbrev b_M_power : ByteArray := prog_5_method_4_code
def ws_M_power : List Cond := .code y_M_power b_M_power 6 (some .int) :: AL
def y_M_times : MethodName := ⟨"DealtSecretModel", "times", "(III)I"⟩
abbrev b_M_times : ByteArray := prog_5_method_3_code
def ws_M_times : List Cond := .code y_M_times b_M_times 3 (some .int) :: AL
def y_M_thrown : MethodName := ⟨"DealtSecretModel", "thrown", "()I"⟩
abbrev b_M_thrown : ByteArray := prog_5_method_13_code
def ws_M_thrown : List Cond := .code y_M_thrown b_M_thrown 1 (some .int) :: AL
def y_M_group : MethodName := ⟨"DealtSecretModel", "group", "(I)I"⟩
abbrev b_M_group : ByteArray := prog_5_method_14_code
def ws_M_group : List Cond := .code y_M_group b_M_group 2 (some .int) :: AL
def y_M_begin : MethodName := ⟨"DealtSecretModel", "begin", "(IIZ)V"⟩
abbrev b_M_begin : ByteArray := prog_5_method_15_code
def ws_M_begin : List Cond := .code y_M_begin b_M_begin 6 none :: AL
def y_M_coefficient : MethodName := ⟨"DealtSecretModel", "coefficient", "(III)V"⟩
abbrev b_M_coefficient : ByteArray := prog_5_method_16_code
def ws_M_coefficient : List Cond := .code y_M_coefficient b_M_coefficient 4 none :: AL
def y_M_refuses : MethodName := ⟨"DealtSecretModel", "refuses", "(ZZ)Z"⟩
abbrev b_M_refuses : ByteArray := prog_5_method_12_code
def ws_M_refuses : List Cond := .code y_M_refuses b_M_refuses 3 (some .boolean) :: AL
def y_M_reduced : MethodName := ⟨"DealtSecretModel", "reduced", "(I)I"⟩
abbrev b_M_reduced : ByteArray := prog_5_method_5_code
def ws_M_reduced : List Cond := .code y_M_reduced b_M_reduced 3 (some .int) :: AL
def y_M_advance : MethodName := ⟨"DealtSecretModel", "advance", "()I"⟩
abbrev b_M_advance : ByteArray := prog_5_method_18_code
def ws_M_advance : List Cond := .code y_M_advance b_M_advance 4 (some .int) :: AL
def y_M_fit : MethodName := ⟨"DealtSecretModel", "fit", "(III)Z"⟩
abbrev b_M_fit : ByteArray := prog_5_method_10_code
def ws_M_fit : List Cond := .code y_M_fit b_M_fit 7 (some .boolean) :: AL
def y_M_paired : MethodName := ⟨"DealtSecretModel", "paired", "(II)I"⟩
abbrev b_M_paired : ByteArray := prog_5_method_9_code
def ws_M_paired : List Cond := .code y_M_paired b_M_paired 3 (some .int) :: AL
def y_M_deal : MethodName := ⟨"DealtSecretModel", "deal", "()V"⟩
abbrev b_M_deal : ByteArray := prog_5_method_17_code
def ws_M_deal : List Cond := .code y_M_deal b_M_deal 2 none :: AL
def y_M_at : MethodName := ⟨"DealtSecretModel", "at", "([II)I"⟩
abbrev b_M_at : ByteArray := prog_5_method_8_code
def ws_M_at : List Cond := .code y_M_at b_M_at 7 (some .int) :: AL
def y_M_tamper : MethodName := ⟨"DealtSecretModel", "tamper", "(III)V"⟩
abbrev b_M_tamper : ByteArray := prog_5_method_19_code
def ws_M_tamper : List Cond := .code y_M_tamper b_M_tamper 4 none :: AL
def y_M_isOne : MethodName := ⟨"DealtSecretModel", "isOne", "(I)Z"⟩
abbrev b_M_isOne : ByteArray := prog_5_method_11_code
def ws_M_isOne : List Cond := .code y_M_isOne b_M_isOne 2 (some .boolean) :: AL
def y_M_forge : MethodName := ⟨"DealtSecretModel", "forge", "(II)V"⟩
abbrev b_M_forge : ByteArray := prog_5_method_20_code
def ws_M_forge : List Cond := .code y_M_forge b_M_forge 3 none :: AL
def y_M_corrupt : MethodName := ⟨"DealtSecretModel", "corrupt", "(I)Z"⟩
abbrev b_M_corrupt : ByteArray := prog_5_method_21_code
def ws_M_corrupt : List Cond := .code y_M_corrupt b_M_corrupt 2 (some .boolean) :: AL
def y_M_accuse : MethodName := ⟨"DealtSecretModel", "accuse", "(I)Z"⟩
abbrev b_M_accuse : ByteArray := prog_5_method_22_code
def ws_M_accuse : List Cond := .code y_M_accuse b_M_accuse 2 (some .boolean) :: AL
def y_M_answer : MethodName := ⟨"DealtSecretModel", "answer", "(III)Z"⟩
abbrev b_M_answer : ByteArray := prog_5_method_23_code
def ws_M_answer : List Cond := .code y_M_answer b_M_answer 4 (some .boolean) :: AL
def y_M_open : MethodName := ⟨"DealtSecretModel", "open", "(I)Z"⟩
abbrev b_M_open : ByteArray := prog_5_method_25_code
def ws_M_open : List Cond := .code y_M_open b_M_open 2 (some .boolean) :: AL
def y_M_lay : MethodName := ⟨"DealtSecretModel", "lay", "(III)Z"⟩
abbrev b_M_lay : ByteArray := prog_5_method_24_code
def ws_M_lay : List Cond := .code y_M_lay b_M_lay 4 (some .boolean) :: AL
def y_M_minus : MethodName := ⟨"DealtSecretModel", "minus", "(II)I"⟩
abbrev b_M_minus : ByteArray := prog_5_method_6_code
def ws_M_minus : List Cond := .code y_M_minus b_M_minus 3 (some .int) :: AL
def y_M_over : MethodName := ⟨"DealtSecretModel", "over", "(II)I"⟩
abbrev b_M_over : ByteArray := prog_5_method_7_code
def ws_M_over : List Cond := .code y_M_over b_M_over 3 (some .int) :: AL
def y_M_show : MethodName := ⟨"DealtSecretModel", "show", "(III)Z"⟩
abbrev b_M_show : ByteArray := prog_5_method_26_code
def ws_M_show : List Cond := .code y_M_show b_M_show 4 (some .boolean) :: AL
def y_M_secret : MethodName := ⟨"DealtSecretModel", "secret", "()I"⟩
abbrev b_M_secret : ByteArray := prog_5_method_27_code
def ws_M_secret : List Cond := .code y_M_secret b_M_secret 3 (some .int) :: AL
def y_M_atZero : MethodName := ⟨"DealtSecretModel", "atZero", "()I"⟩
abbrev b_M_atZero : ByteArray := prog_5_method_28_code
def ws_M_atZero : List Cond := .code y_M_atZero b_M_atZero 4 (some .int) :: AL
def y_M_relation : MethodName := ⟨"DealtSecretModel", "relation", "()I"⟩
abbrev b_M_relation : ByteArray := prog_5_method_29_code
def ws_M_relation : List Cond := .code y_M_relation b_M_relation 1 (some .int) :: AL
def y_M_stage : MethodName := ⟨"DealtSecretModel", "stage", "()I"⟩
abbrev b_M_stage : ByteArray := prog_5_method_30_code
def ws_M_stage : List Cond := .code y_M_stage b_M_stage 1 (some .int) :: AL
def y_M_commitment : MethodName := ⟨"DealtSecretModel", "commitment", "(I)I"⟩
abbrev b_M_commitment : ByteArray := prog_5_method_31_code
def ws_M_commitment : List Cond := .code y_M_commitment b_M_commitment 2 (some .int) :: AL
def y_M_share : MethodName := ⟨"DealtSecretModel", "share", "(II)I"⟩
abbrev b_M_share : ByteArray := prog_5_method_32_code
def ws_M_share : List Cond := .code y_M_share b_M_share 3 (some .int) :: AL
def y_M_fits : MethodName := ⟨"DealtSecretModel", "fits", "(I)Z"⟩
abbrev b_M_fits : ByteArray := prog_5_method_33_code
def ws_M_fits : List Cond := .code y_M_fits b_M_fits 2 (some .boolean) :: AL
def y_M_complaints : MethodName := ⟨"DealtSecretModel", "complaints", "()I"⟩
abbrev b_M_complaints : ByteArray := prog_5_method_34_code
def ws_M_complaints : List Cond := .code y_M_complaints b_M_complaints 3 (some .int) :: AL
def y_M_opened : MethodName := ⟨"DealtSecretModel", "opened", "()I"⟩
abbrev b_M_opened : ByteArray := prog_5_method_35_code
def ws_M_opened : List Cond := .code y_M_opened b_M_opened 3 (some .int) :: AL
end
section
theorem d_G_init_0 : decode b_G_init 0 = .ok (.aload_n 0, 1) := by decide +kernel
theorem d_G_init_1 : decode b_G_init 1 = .ok (.invokespecial 1, 3) := by decide +kernel
theorem d_G_init_4 : decode b_G_init 4 = .ok (.aload_n 0, 1) := by decide +kernel
theorem d_G_init_5 : decode b_G_init 5 = .ok (.iload_n 1, 1) := by decide +kernel
theorem d_G_init_6 : decode b_G_init 6 = .ok (.putfield 7, 3) := by decide +kernel
theorem d_G_init_9 : decode b_G_init 9 = .ok (.aload_n 0, 1) := by decide +kernel
theorem d_G_init_10 : decode b_G_init 10 = .ok (.iload_n 2, 1) := by decide +kernel
theorem d_G_init_11 : decode b_G_init 11 = .ok (.putfield 13, 3) := by decide +kernel
theorem d_G_init_14 : decode b_G_init 14 = .ok (.aload_n 0, 1) := by decide +kernel
theorem d_G_init_15 : decode b_G_init 15 = .ok (.iload_n 3, 1) := by decide +kernel
theorem d_G_init_16 : decode b_G_init 16 = .ok (.putfield 16, 3) := by decide +kernel
theorem d_G_init_19 : decode b_G_init 19 = .ok (.aload_n 0, 1) := by decide +kernel
theorem d_G_init_20 : decode b_G_init 20 = .ok (.iload 4, 2) := by decide +kernel
theorem d_G_init_22 : decode b_G_init 22 = .ok (.putfield 19, 3) := by decide +kernel
theorem d_G_init_25 : decode b_G_init 25 = .ok (.return_, 1) := by decide +kernel
theorem d_G_told_0 : decode b_G_told 0 = .ok (.iload_n 0, 1) := by decide +kernel
theorem d_G_told_1 : decode b_G_told 1 = .ok (.iload_n 1, 1) := by decide +kernel
theorem d_G_told_2 : decode b_G_told 2 = .ok (.iload_n 2, 1) := by decide +kernel
theorem d_G_told_3 : decode b_G_told 3 = .ok (.iload_n 3, 1) := by decide +kernel
theorem d_G_told_4 : decode b_G_told 4 = .ok (.invokestatic 22, 3) := by decide +kernel
theorem d_G_told_7 : decode b_G_told 7 = .ok (.ifCond .eq 17, 3) := by decide +kernel
theorem d_G_told_10 : decode b_G_told 10 = .ok (.new 8, 3) := by decide +kernel
theorem d_G_told_13 : decode b_G_told 13 = .ok (.dup, 1) := by decide +kernel
theorem d_G_told_14 : decode b_G_told 14 = .ok (.iload_n 0, 1) := by decide +kernel
theorem d_G_told_15 : decode b_G_told 15 = .ok (.iload_n 1, 1) := by decide +kernel
theorem d_G_told_16 : decode b_G_told 16 = .ok (.iload_n 2, 1) := by decide +kernel
theorem d_G_told_17 : decode b_G_told 17 = .ok (.iload_n 3, 1) := by decide +kernel
theorem d_G_told_18 : decode b_G_told 18 = .ok (.invokespecial 26, 3) := by decide +kernel
theorem d_G_told_21 : decode b_G_told 21 = .ok (.goto 19, 3) := by decide +kernel
theorem d_G_told_24 : decode b_G_told 24 = .ok (.new 8, 3) := by decide +kernel
theorem d_G_told_27 : decode b_G_told 27 = .ok (.dup, 1) := by decide +kernel
theorem d_G_told_28 : decode b_G_told 28 = .ok (.sipush 2039, 3) := by decide +kernel
theorem d_G_told_31 : decode b_G_told 31 = .ok (.sipush 1019, 3) := by decide +kernel
theorem d_G_told_34 : decode b_G_told 34 = .ok (.iconst 4, 1) := by decide +kernel
theorem d_G_told_35 : decode b_G_told 35 = .ok (.bipush 9, 2) := by decide +kernel
theorem d_G_told_37 : decode b_G_told 37 = .ok (.invokespecial 26, 3) := by decide +kernel
theorem d_G_told_40 : decode b_G_told 40 = .ok (.areturn, 1) := by decide +kernel
theorem d_G_isSound_0 : decode b_G_isSound 0 = .ok (.iload_n 0, 1) := by decide +kernel
theorem d_G_isSound_1 : decode b_G_isSound 1 = .ok (.iconst 2, 1) := by decide +kernel
theorem d_G_isSound_2 : decode b_G_isSound 2 = .ok (.if_icmp .lt 57, 3) := by decide +kernel
theorem d_G_isSound_5 : decode b_G_isSound 5 = .ok (.iload_n 1, 1) := by decide +kernel
theorem d_G_isSound_6 : decode b_G_isSound 6 = .ok (.iconst 2, 1) := by decide +kernel
theorem d_G_isSound_7 : decode b_G_isSound 7 = .ok (.if_icmp .lt 52, 3) := by decide +kernel
theorem d_G_isSound_10 : decode b_G_isSound 10 = .ok (.iload_n 0, 1) := by decide +kernel
theorem d_G_isSound_11 : decode b_G_isSound 11 = .ok (.iconst 1, 1) := by decide +kernel
theorem d_G_isSound_12 : decode b_G_isSound 12 = .ok (.isub, 1) := by decide +kernel
theorem d_G_isSound_13 : decode b_G_isSound 13 = .ok (.iload_n 1, 1) := by decide +kernel
theorem d_G_isSound_14 : decode b_G_isSound 14 = .ok (.irem, 1) := by decide +kernel
theorem d_G_isSound_15 : decode b_G_isSound 15 = .ok (.ifCond .ne 44, 3) := by decide +kernel
theorem d_G_isSound_18 : decode b_G_isSound 18 = .ok (.iload_n 2, 1) := by decide +kernel
theorem d_G_isSound_19 : decode b_G_isSound 19 = .ok (.iload_n 3, 1) := by decide +kernel
theorem d_G_isSound_20 : decode b_G_isSound 20 = .ok (.if_icmp .eq 39, 3) := by decide +kernel
theorem d_G_isSound_23 : decode b_G_isSound 23 = .ok (.iload_n 2, 1) := by decide +kernel
theorem d_G_isSound_24 : decode b_G_isSound 24 = .ok (.iload_n 0, 1) := by decide +kernel
theorem d_G_isSound_25 : decode b_G_isSound 25 = .ok (.iload_n 1, 1) := by decide +kernel
theorem d_G_isSound_26 : decode b_G_isSound 26 = .ok (.invokestatic 29, 3) := by decide +kernel
theorem d_G_isSound_29 : decode b_G_isSound 29 = .ok (.ifCond .eq 30, 3) := by decide +kernel
theorem d_G_isSound_32 : decode b_G_isSound 32 = .ok (.iload_n 3, 1) := by decide +kernel
theorem d_G_isSound_33 : decode b_G_isSound 33 = .ok (.iload_n 0, 1) := by decide +kernel
theorem d_G_isSound_34 : decode b_G_isSound 34 = .ok (.iload_n 1, 1) := by decide +kernel
theorem d_G_isSound_35 : decode b_G_isSound 35 = .ok (.invokestatic 29, 3) := by decide +kernel
theorem d_G_isSound_38 : decode b_G_isSound 38 = .ok (.ifCond .eq 21, 3) := by decide +kernel
theorem d_G_isSound_41 : decode b_G_isSound 41 = .ok (.iload_n 1, 1) := by decide +kernel
theorem d_G_isSound_42 : decode b_G_isSound 42 = .ok (.invokestatic 33, 3) := by decide +kernel
theorem d_G_isSound_45 : decode b_G_isSound 45 = .ok (.ifCond .eq 14, 3) := by decide +kernel
theorem d_G_isSound_48 : decode b_G_isSound 48 = .ok (.iload_n 0, 1) := by decide +kernel
theorem d_G_isSound_49 : decode b_G_isSound 49 = .ok (.invokestatic 33, 3) := by decide +kernel
theorem d_G_isSound_52 : decode b_G_isSound 52 = .ok (.ifCond .eq 7, 3) := by decide +kernel
theorem d_G_isSound_55 : decode b_G_isSound 55 = .ok (.iconst 1, 1) := by decide +kernel
theorem d_G_isSound_56 : decode b_G_isSound 56 = .ok (.goto 4, 3) := by decide +kernel
theorem d_G_isSound_59 : decode b_G_isSound 59 = .ok (.iconst 0, 1) := by decide +kernel
theorem d_G_isSound_60 : decode b_G_isSound 60 = .ok (.ireturn, 1) := by decide +kernel
theorem d_G_isElement_0 : decode b_G_isElement 0 = .ok (.iload_n 0, 1) := by decide +kernel
theorem d_G_isElement_1 : decode b_G_isElement 1 = .ok (.iconst 2, 1) := by decide +kernel
theorem d_G_isElement_2 : decode b_G_isElement 2 = .ok (.if_icmp .lt 22, 3) := by decide +kernel
theorem d_G_isElement_5 : decode b_G_isElement 5 = .ok (.iload_n 0, 1) := by decide +kernel
theorem d_G_isElement_6 : decode b_G_isElement 6 = .ok (.iload_n 1, 1) := by decide +kernel
theorem d_G_isElement_7 : decode b_G_isElement 7 = .ok (.if_icmp .ge 17, 3) := by decide +kernel
theorem d_G_isElement_10 : decode b_G_isElement 10 = .ok (.iload_n 0, 1) := by decide +kernel
theorem d_G_isElement_11 : decode b_G_isElement 11 = .ok (.iload_n 2, 1) := by decide +kernel
theorem d_G_isElement_12 : decode b_G_isElement 12 = .ok (.iload_n 1, 1) := by decide +kernel
theorem d_G_isElement_13 : decode b_G_isElement 13 = .ok (.invokestatic 37, 3) := by decide +kernel
theorem d_G_isElement_16 : decode b_G_isElement 16 = .ok (.iconst 1, 1) := by decide +kernel
theorem d_G_isElement_17 : decode b_G_isElement 17 = .ok (.if_icmp .ne 7, 3) := by decide +kernel
theorem d_G_isElement_20 : decode b_G_isElement 20 = .ok (.iconst 1, 1) := by decide +kernel
theorem d_G_isElement_21 : decode b_G_isElement 21 = .ok (.goto 4, 3) := by decide +kernel
theorem d_G_isElement_24 : decode b_G_isElement 24 = .ok (.iconst 0, 1) := by decide +kernel
theorem d_G_isElement_25 : decode b_G_isElement 25 = .ok (.ireturn, 1) := by decide +kernel
theorem d_G_isPrime_0 : decode b_G_isPrime 0 = .ok (.iload_n 0, 1) := by decide +kernel
theorem d_G_isPrime_1 : decode b_G_isPrime 1 = .ok (.iconst 2, 1) := by decide +kernel
theorem d_G_isPrime_2 : decode b_G_isPrime 2 = .ok (.if_icmp .lt 9, 3) := by decide +kernel
theorem d_G_isPrime_5 : decode b_G_isPrime 5 = .ok (.iload_n 0, 1) := by decide +kernel
theorem d_G_isPrime_6 : decode b_G_isPrime 6 = .ok (.iconst 2, 1) := by decide +kernel
theorem d_G_isPrime_7 : decode b_G_isPrime 7 = .ok (.irem, 1) := by decide +kernel
theorem d_G_isPrime_8 : decode b_G_isPrime 8 = .ok (.ifCond .ne 14, 3) := by decide +kernel
theorem d_G_isPrime_11 : decode b_G_isPrime 11 = .ok (.iload_n 0, 1) := by decide +kernel
theorem d_G_isPrime_12 : decode b_G_isPrime 12 = .ok (.iconst 2, 1) := by decide +kernel
theorem d_G_isPrime_13 : decode b_G_isPrime 13 = .ok (.if_icmp .ne 7, 3) := by decide +kernel
theorem d_G_isPrime_16 : decode b_G_isPrime 16 = .ok (.iconst 1, 1) := by decide +kernel
theorem d_G_isPrime_17 : decode b_G_isPrime 17 = .ok (.goto 4, 3) := by decide +kernel
theorem d_G_isPrime_20 : decode b_G_isPrime 20 = .ok (.iconst 0, 1) := by decide +kernel
theorem d_G_isPrime_21 : decode b_G_isPrime 21 = .ok (.ireturn, 1) := by decide +kernel
theorem d_G_isPrime_22 : decode b_G_isPrime 22 = .ok (.iconst 3, 1) := by decide +kernel
theorem d_G_isPrime_23 : decode b_G_isPrime 23 = .ok (.istore_n 1, 1) := by decide +kernel
theorem d_G_isPrime_24 : decode b_G_isPrime 24 = .ok (.iload_n 1, 1) := by decide +kernel
theorem d_G_isPrime_25 : decode b_G_isPrime 25 = .ok (.iload_n 0, 1) := by decide +kernel
theorem d_G_isPrime_26 : decode b_G_isPrime 26 = .ok (.iload_n 1, 1) := by decide +kernel
theorem d_G_isPrime_27 : decode b_G_isPrime 27 = .ok (.idiv, 1) := by decide +kernel
theorem d_G_isPrime_28 : decode b_G_isPrime 28 = .ok (.if_icmp .gt 17, 3) := by decide +kernel
theorem d_G_isPrime_31 : decode b_G_isPrime 31 = .ok (.iload_n 0, 1) := by decide +kernel
theorem d_G_isPrime_32 : decode b_G_isPrime 32 = .ok (.iload_n 1, 1) := by decide +kernel
theorem d_G_isPrime_33 : decode b_G_isPrime 33 = .ok (.irem, 1) := by decide +kernel
theorem d_G_isPrime_34 : decode b_G_isPrime 34 = .ok (.ifCond .ne 5, 3) := by decide +kernel
theorem d_G_isPrime_37 : decode b_G_isPrime 37 = .ok (.iconst 0, 1) := by decide +kernel
theorem d_G_isPrime_38 : decode b_G_isPrime 38 = .ok (.ireturn, 1) := by decide +kernel
theorem d_G_isPrime_39 : decode b_G_isPrime 39 = .ok (.iinc 1 2, 3) := by decide +kernel
theorem d_G_isPrime_42 : decode b_G_isPrime 42 = .ok (.goto (-18), 3) := by decide +kernel
theorem d_G_isPrime_45 : decode b_G_isPrime 45 = .ok (.iconst 1, 1) := by decide +kernel
theorem d_G_isPrime_46 : decode b_G_isPrime 46 = .ok (.ireturn, 1) := by decide +kernel
theorem d_G_powerModulo_0 : decode b_G_powerModulo 0 = .ok (.lconst 1, 1) := by decide +kernel
theorem d_G_powerModulo_1 : decode b_G_powerModulo 1 = .ok (.lstore_n 3, 1) := by decide +kernel
theorem d_G_powerModulo_2 : decode b_G_powerModulo 2 = .ok (.iload_n 0, 1) := by decide +kernel
theorem d_G_powerModulo_3 : decode b_G_powerModulo 3 = .ok (.i2l, 1) := by decide +kernel
theorem d_G_powerModulo_4 : decode b_G_powerModulo 4 = .ok (.lstore 5, 2) := by decide +kernel
theorem d_G_powerModulo_6 : decode b_G_powerModulo 6 = .ok (.iload_n 1, 1) := by decide +kernel
theorem d_G_powerModulo_7 : decode b_G_powerModulo 7 = .ok (.istore 7, 2) := by decide +kernel
theorem d_G_powerModulo_9 : decode b_G_powerModulo 9 = .ok (.iload 7, 2) := by decide +kernel
theorem d_G_powerModulo_11 : decode b_G_powerModulo 11 = .ok (.ifCond .le 38, 3) := by decide +kernel
theorem d_G_powerModulo_14 : decode b_G_powerModulo 14 = .ok (.iload 7, 2) := by decide +kernel
theorem d_G_powerModulo_16 : decode b_G_powerModulo 16 = .ok (.iconst 1, 1) := by decide +kernel
theorem d_G_powerModulo_17 : decode b_G_powerModulo 17 = .ok (.iand, 1) := by decide +kernel
theorem d_G_powerModulo_18 : decode b_G_powerModulo 18 = .ok (.iconst 1, 1) := by decide +kernel
theorem d_G_powerModulo_19 : decode b_G_powerModulo 19 = .ok (.if_icmp .ne 11, 3) := by decide +kernel
theorem d_G_powerModulo_22 : decode b_G_powerModulo 22 = .ok (.lload_n 3, 1) := by decide +kernel
theorem d_G_powerModulo_23 : decode b_G_powerModulo 23 = .ok (.lload 5, 2) := by decide +kernel
theorem d_G_powerModulo_25 : decode b_G_powerModulo 25 = .ok (.lmul, 1) := by decide +kernel
theorem d_G_powerModulo_26 : decode b_G_powerModulo 26 = .ok (.iload_n 2, 1) := by decide +kernel
theorem d_G_powerModulo_27 : decode b_G_powerModulo 27 = .ok (.i2l, 1) := by decide +kernel
theorem d_G_powerModulo_28 : decode b_G_powerModulo 28 = .ok (.lrem, 1) := by decide +kernel
theorem d_G_powerModulo_29 : decode b_G_powerModulo 29 = .ok (.lstore_n 3, 1) := by decide +kernel
theorem d_G_powerModulo_30 : decode b_G_powerModulo 30 = .ok (.lload 5, 2) := by decide +kernel
theorem d_G_powerModulo_32 : decode b_G_powerModulo 32 = .ok (.lload 5, 2) := by decide +kernel
theorem d_G_powerModulo_34 : decode b_G_powerModulo 34 = .ok (.lmul, 1) := by decide +kernel
theorem d_G_powerModulo_35 : decode b_G_powerModulo 35 = .ok (.iload_n 2, 1) := by decide +kernel
theorem d_G_powerModulo_36 : decode b_G_powerModulo 36 = .ok (.i2l, 1) := by decide +kernel
theorem d_G_powerModulo_37 : decode b_G_powerModulo 37 = .ok (.lrem, 1) := by decide +kernel
theorem d_G_powerModulo_38 : decode b_G_powerModulo 38 = .ok (.lstore 5, 2) := by decide +kernel
theorem d_G_powerModulo_40 : decode b_G_powerModulo 40 = .ok (.iload 7, 2) := by decide +kernel
theorem d_G_powerModulo_42 : decode b_G_powerModulo 42 = .ok (.iconst 1, 1) := by decide +kernel
theorem d_G_powerModulo_43 : decode b_G_powerModulo 43 = .ok (.ishr, 1) := by decide +kernel
theorem d_G_powerModulo_44 : decode b_G_powerModulo 44 = .ok (.istore 7, 2) := by decide +kernel
theorem d_G_powerModulo_46 : decode b_G_powerModulo 46 = .ok (.goto (-37), 3) := by decide +kernel
theorem d_G_powerModulo_49 : decode b_G_powerModulo 49 = .ok (.lload_n 3, 1) := by decide +kernel
theorem d_G_powerModulo_50 : decode b_G_powerModulo 50 = .ok (.l2i, 1) := by decide +kernel
theorem d_G_powerModulo_51 : decode b_G_powerModulo 51 = .ok (.ireturn, 1) := by decide +kernel
theorem d_G_commit_0 : decode b_G_commit 0 = .ok (.aload_n 0, 1) := by decide +kernel
theorem d_G_commit_1 : decode b_G_commit 1 = .ok (.aload_n 0, 1) := by decide +kernel
theorem d_G_commit_2 : decode b_G_commit 2 = .ok (.aload_n 0, 1) := by decide +kernel
theorem d_G_commit_3 : decode b_G_commit 3 = .ok (.getfield 16, 3) := by decide +kernel
theorem d_G_commit_6 : decode b_G_commit 6 = .ok (.iload_n 1, 1) := by decide +kernel
theorem d_G_commit_7 : decode b_G_commit 7 = .ok (.invokevirtual 41, 3) := by decide +kernel
theorem d_G_commit_10 : decode b_G_commit 10 = .ok (.aload_n 0, 1) := by decide +kernel
theorem d_G_commit_11 : decode b_G_commit 11 = .ok (.aload_n 0, 1) := by decide +kernel
theorem d_G_commit_12 : decode b_G_commit 12 = .ok (.getfield 19, 3) := by decide +kernel
theorem d_G_commit_15 : decode b_G_commit 15 = .ok (.iload_n 2, 1) := by decide +kernel
theorem d_G_commit_16 : decode b_G_commit 16 = .ok (.invokevirtual 41, 3) := by decide +kernel
theorem d_G_commit_19 : decode b_G_commit 19 = .ok (.invokevirtual 45, 3) := by decide +kernel
theorem d_G_commit_22 : decode b_G_commit 22 = .ok (.ireturn, 1) := by decide +kernel
theorem d_G_power_0 : decode b_G_power 0 = .ok (.iload_n 1, 1) := by decide +kernel
theorem d_G_power_1 : decode b_G_power 1 = .ok (.iload_n 2, 1) := by decide +kernel
theorem d_G_power_2 : decode b_G_power 2 = .ok (.aload_n 0, 1) := by decide +kernel
theorem d_G_power_3 : decode b_G_power 3 = .ok (.getfield 7, 3) := by decide +kernel
theorem d_G_power_6 : decode b_G_power 6 = .ok (.invokestatic 37, 3) := by decide +kernel
theorem d_G_power_9 : decode b_G_power 9 = .ok (.ireturn, 1) := by decide +kernel
theorem d_G_product_0 : decode b_G_product 0 = .ok (.iload_n 1, 1) := by decide +kernel
theorem d_G_product_1 : decode b_G_product 1 = .ok (.i2l, 1) := by decide +kernel
theorem d_G_product_2 : decode b_G_product 2 = .ok (.iload_n 2, 1) := by decide +kernel
theorem d_G_product_3 : decode b_G_product 3 = .ok (.i2l, 1) := by decide +kernel
theorem d_G_product_4 : decode b_G_product 4 = .ok (.lmul, 1) := by decide +kernel
theorem d_G_product_5 : decode b_G_product 5 = .ok (.aload_n 0, 1) := by decide +kernel
theorem d_G_product_6 : decode b_G_product 6 = .ok (.getfield 7, 3) := by decide +kernel
theorem d_G_product_9 : decode b_G_product 9 = .ok (.i2l, 1) := by decide +kernel
theorem d_G_product_10 : decode b_G_product 10 = .ok (.lrem, 1) := by decide +kernel
theorem d_G_product_11 : decode b_G_product 11 = .ok (.l2i, 1) := by decide +kernel
theorem d_G_product_12 : decode b_G_product 12 = .ok (.ireturn, 1) := by decide +kernel
theorem d_G_number_0 : decode b_G_number 0 = .ok (.iload_n 1, 1) := by decide +kernel
theorem d_G_number_1 : decode b_G_number 1 = .ok (.aload_n 0, 1) := by decide +kernel
theorem d_G_number_2 : decode b_G_number 2 = .ok (.getfield 13, 3) := by decide +kernel
theorem d_G_number_5 : decode b_G_number 5 = .ok (.invokestatic 48, 3) := by decide +kernel
theorem d_G_number_8 : decode b_G_number 8 = .ok (.ireturn, 1) := by decide +kernel
theorem d_G_plus_0 : decode b_G_plus 0 = .ok (.iload_n 1, 1) := by decide +kernel
theorem d_G_plus_1 : decode b_G_plus 1 = .ok (.i2l, 1) := by decide +kernel
theorem d_G_plus_2 : decode b_G_plus 2 = .ok (.iload_n 2, 1) := by decide +kernel
theorem d_G_plus_3 : decode b_G_plus 3 = .ok (.i2l, 1) := by decide +kernel
theorem d_G_plus_4 : decode b_G_plus 4 = .ok (.ladd, 1) := by decide +kernel
theorem d_G_plus_5 : decode b_G_plus 5 = .ok (.aload_n 0, 1) := by decide +kernel
theorem d_G_plus_6 : decode b_G_plus 6 = .ok (.getfield 13, 3) := by decide +kernel
theorem d_G_plus_9 : decode b_G_plus 9 = .ok (.i2l, 1) := by decide +kernel
theorem d_G_plus_10 : decode b_G_plus 10 = .ok (.lrem, 1) := by decide +kernel
theorem d_G_plus_11 : decode b_G_plus 11 = .ok (.l2i, 1) := by decide +kernel
theorem d_G_plus_12 : decode b_G_plus 12 = .ok (.ireturn, 1) := by decide +kernel
theorem d_G_minus_0 : decode b_G_minus 0 = .ok (.aload_n 0, 1) := by decide +kernel
theorem d_G_minus_1 : decode b_G_minus 1 = .ok (.iload_n 1, 1) := by decide +kernel
theorem d_G_minus_2 : decode b_G_minus 2 = .ok (.iload_n 2, 1) := by decide +kernel
theorem d_G_minus_3 : decode b_G_minus 3 = .ok (.isub, 1) := by decide +kernel
theorem d_G_minus_4 : decode b_G_minus 4 = .ok (.invokevirtual 53, 3) := by decide +kernel
theorem d_G_minus_7 : decode b_G_minus 7 = .ok (.ireturn, 1) := by decide +kernel
theorem d_G_times_0 : decode b_G_times 0 = .ok (.iload_n 1, 1) := by decide +kernel
theorem d_G_times_1 : decode b_G_times 1 = .ok (.i2l, 1) := by decide +kernel
theorem d_G_times_2 : decode b_G_times 2 = .ok (.iload_n 2, 1) := by decide +kernel
theorem d_G_times_3 : decode b_G_times 3 = .ok (.i2l, 1) := by decide +kernel
theorem d_G_times_4 : decode b_G_times 4 = .ok (.lmul, 1) := by decide +kernel
theorem d_G_times_5 : decode b_G_times 5 = .ok (.aload_n 0, 1) := by decide +kernel
theorem d_G_times_6 : decode b_G_times 6 = .ok (.getfield 13, 3) := by decide +kernel
theorem d_G_times_9 : decode b_G_times 9 = .ok (.i2l, 1) := by decide +kernel
theorem d_G_times_10 : decode b_G_times 10 = .ok (.lrem, 1) := by decide +kernel
theorem d_G_times_11 : decode b_G_times 11 = .ok (.l2i, 1) := by decide +kernel
theorem d_G_times_12 : decode b_G_times 12 = .ok (.ireturn, 1) := by decide +kernel
theorem d_G_quotient_0 : decode b_G_quotient 0 = .ok (.aload_n 0, 1) := by decide +kernel
theorem d_G_quotient_1 : decode b_G_quotient 1 = .ok (.iload_n 1, 1) := by decide +kernel
theorem d_G_quotient_2 : decode b_G_quotient 2 = .ok (.iload_n 2, 1) := by decide +kernel
theorem d_G_quotient_3 : decode b_G_quotient 3 = .ok (.aload_n 0, 1) := by decide +kernel
theorem d_G_quotient_4 : decode b_G_quotient 4 = .ok (.getfield 13, 3) := by decide +kernel
theorem d_G_quotient_7 : decode b_G_quotient 7 = .ok (.iconst 2, 1) := by decide +kernel
theorem d_G_quotient_8 : decode b_G_quotient 8 = .ok (.isub, 1) := by decide +kernel
theorem d_G_quotient_9 : decode b_G_quotient 9 = .ok (.aload_n 0, 1) := by decide +kernel
theorem d_G_quotient_10 : decode b_G_quotient 10 = .ok (.getfield 13, 3) := by decide +kernel
theorem d_G_quotient_13 : decode b_G_quotient 13 = .ok (.invokestatic 37, 3) := by decide +kernel
theorem d_G_quotient_16 : decode b_G_quotient 16 = .ok (.invokevirtual 57, 3) := by decide +kernel
theorem d_G_quotient_19 : decode b_G_quotient 19 = .ok (.ireturn, 1) := by decide +kernel
theorem d_P_init_0 : decode b_P_init 0 = .ok (.aload_n 0, 1) := by decide +kernel
theorem d_P_init_1 : decode b_P_init 1 = .ok (.invokespecial 1, 3) := by decide +kernel
theorem d_P_init_4 : decode b_P_init 4 = .ok (.aload_n 0, 1) := by decide +kernel
theorem d_P_init_5 : decode b_P_init 5 = .ok (.iload_n 1, 1) := by decide +kernel
theorem d_P_init_6 : decode b_P_init 6 = .ok (.putfield 7, 3) := by decide +kernel
theorem d_P_init_9 : decode b_P_init 9 = .ok (.return_, 1) := by decide +kernel
theorem d_P_startAnew_0 : decode b_P_startAnew 0 = .ok (.aload_n 0, 1) := by decide +kernel
theorem d_P_startAnew_1 : decode b_P_startAnew 1 = .ok (.iconst 0, 1) := by decide +kernel
theorem d_P_startAnew_2 : decode b_P_startAnew 2 = .ok (.putfield 13, 3) := by decide +kernel
theorem d_P_startAnew_5 : decode b_P_startAnew 5 = .ok (.aload_n 0, 1) := by decide +kernel
theorem d_P_startAnew_6 : decode b_P_startAnew 6 = .ok (.iconst 0, 1) := by decide +kernel
theorem d_P_startAnew_7 : decode b_P_startAnew 7 = .ok (.putfield 17, 3) := by decide +kernel
theorem d_P_startAnew_10 : decode b_P_startAnew 10 = .ok (.aload_n 0, 1) := by decide +kernel
theorem d_P_startAnew_11 : decode b_P_startAnew 11 = .ok (.iconst 0, 1) := by decide +kernel
theorem d_P_startAnew_12 : decode b_P_startAnew 12 = .ok (.putfield 20, 3) := by decide +kernel
theorem d_P_startAnew_15 : decode b_P_startAnew 15 = .ok (.aload_n 0, 1) := by decide +kernel
theorem d_P_startAnew_16 : decode b_P_startAnew 16 = .ok (.iconst 0, 1) := by decide +kernel
theorem d_P_startAnew_17 : decode b_P_startAnew 17 = .ok (.putfield 23, 3) := by decide +kernel
theorem d_P_startAnew_20 : decode b_P_startAnew 20 = .ok (.return_, 1) := by decide +kernel
theorem d_P_receive_0 : decode b_P_receive 0 = .ok (.aload_n 0, 1) := by decide +kernel
theorem d_P_receive_1 : decode b_P_receive 1 = .ok (.iload_n 1, 1) := by decide +kernel
theorem d_P_receive_2 : decode b_P_receive 2 = .ok (.putfield 26, 3) := by decide +kernel
theorem d_P_receive_5 : decode b_P_receive 5 = .ok (.aload_n 0, 1) := by decide +kernel
theorem d_P_receive_6 : decode b_P_receive 6 = .ok (.iload_n 2, 1) := by decide +kernel
theorem d_P_receive_7 : decode b_P_receive 7 = .ok (.putfield 29, 3) := by decide +kernel
theorem d_P_receive_10 : decode b_P_receive 10 = .ok (.return_, 1) := by decide +kernel
theorem d_P_keep_0 : decode b_P_keep 0 = .ok (.aload_n 0, 1) := by decide +kernel
theorem d_P_keep_1 : decode b_P_keep 1 = .ok (.iconst 1, 1) := by decide +kernel
theorem d_P_keep_2 : decode b_P_keep 2 = .ok (.putfield 23, 3) := by decide +kernel
theorem d_P_keep_5 : decode b_P_keep 5 = .ok (.aload_n 0, 1) := by decide +kernel
theorem d_P_keep_6 : decode b_P_keep 6 = .ok (.iload_n 1, 1) := by decide +kernel
theorem d_P_keep_7 : decode b_P_keep 7 = .ok (.putfield 32, 3) := by decide +kernel
theorem d_P_keep_10 : decode b_P_keep 10 = .ok (.aload_n 0, 1) := by decide +kernel
theorem d_P_keep_11 : decode b_P_keep 11 = .ok (.iload_n 2, 1) := by decide +kernel
theorem d_P_keep_12 : decode b_P_keep 12 = .ok (.putfield 35, 3) := by decide +kernel
theorem d_P_keep_15 : decode b_P_keep 15 = .ok (.return_, 1) := by decide +kernel
theorem d_J_floorMod_0 : decode b_J_floorMod 0 = .ok (.iload_n 0, 1) := by decide +kernel
theorem d_J_floorMod_1 : decode b_J_floorMod 1 = .ok (.iload_n 1, 1) := by decide +kernel
theorem d_J_floorMod_2 : decode b_J_floorMod 2 = .ok (.irem, 1) := by decide +kernel
theorem d_J_floorMod_3 : decode b_J_floorMod 3 = .ok (.istore_n 2, 1) := by decide +kernel
theorem d_J_floorMod_4 : decode b_J_floorMod 4 = .ok (.iload_n 0, 1) := by decide +kernel
theorem d_J_floorMod_5 : decode b_J_floorMod 5 = .ok (.iload_n 1, 1) := by decide +kernel
theorem d_J_floorMod_6 : decode b_J_floorMod 6 = .ok (.ixor, 1) := by decide +kernel
theorem d_J_floorMod_7 : decode b_J_floorMod 7 = .ok (.ifCond .ge 11, 3) := by decide +kernel
theorem d_J_floorMod_10 : decode b_J_floorMod 10 = .ok (.iload_n 2, 1) := by decide +kernel
theorem d_J_floorMod_11 : decode b_J_floorMod 11 = .ok (.ifCond .eq 7, 3) := by decide +kernel
theorem d_J_floorMod_14 : decode b_J_floorMod 14 = .ok (.iload_n 2, 1) := by decide +kernel
theorem d_J_floorMod_15 : decode b_J_floorMod 15 = .ok (.iload_n 1, 1) := by decide +kernel
theorem d_J_floorMod_16 : decode b_J_floorMod 16 = .ok (.iadd, 1) := by decide +kernel
theorem d_J_floorMod_17 : decode b_J_floorMod 17 = .ok (.ireturn, 1) := by decide +kernel
theorem d_J_floorMod_18 : decode b_J_floorMod 18 = .ok (.iload_n 2, 1) := by decide +kernel
theorem d_J_floorMod_19 : decode b_J_floorMod 19 = .ok (.ireturn, 1) := by decide +kernel
theorem d_J_fill_0 : decode b_J_fill 0 = .ok (.iconst 0, 1) := by decide +kernel
theorem d_J_fill_1 : decode b_J_fill 1 = .ok (.istore_n 2, 1) := by decide +kernel
theorem d_J_fill_2 : decode b_J_fill 2 = .ok (.aload_n 0, 1) := by decide +kernel
theorem d_J_fill_3 : decode b_J_fill 3 = .ok (.arraylength, 1) := by decide +kernel
theorem d_J_fill_4 : decode b_J_fill 4 = .ok (.istore_n 3, 1) := by decide +kernel
theorem d_J_fill_5 : decode b_J_fill 5 = .ok (.iload_n 2, 1) := by decide +kernel
theorem d_J_fill_6 : decode b_J_fill 6 = .ok (.iload_n 3, 1) := by decide +kernel
theorem d_J_fill_7 : decode b_J_fill 7 = .ok (.if_icmp .ge 13, 3) := by decide +kernel
theorem d_J_fill_10 : decode b_J_fill 10 = .ok (.aload_n 0, 1) := by decide +kernel
theorem d_J_fill_11 : decode b_J_fill 11 = .ok (.iload_n 2, 1) := by decide +kernel
theorem d_J_fill_12 : decode b_J_fill 12 = .ok (.iload_n 1, 1) := by decide +kernel
theorem d_J_fill_13 : decode b_J_fill 13 = .ok (.iastore, 1) := by decide +kernel
theorem d_J_fill_14 : decode b_J_fill 14 = .ok (.iinc 2 1, 3) := by decide +kernel
theorem d_J_fill_17 : decode b_J_fill 17 = .ok (.goto (-12), 3) := by decide +kernel
theorem d_J_fill_20 : decode b_J_fill 20 = .ok (.return_, 1) := by decide +kernel
end
section
theorem d_C_init_0 : decode b_C_init 0 = .ok (.aload_n 0, 1) := by decide +kernel
theorem d_C_init_1 : decode b_C_init 1 = .ok (.invokespecial 1, 3) := by decide +kernel
theorem d_C_init_4 : decode b_C_init 4 = .ok (.aload_n 0, 1) := by decide +kernel
theorem d_C_init_5 : decode b_C_init 5 = .ok (.iload_n 1, 1) := by decide +kernel
theorem d_C_init_6 : decode b_C_init 6 = .ok (.iload_n 2, 1) := by decide +kernel
theorem d_C_init_7 : decode b_C_init 7 = .ok (.iload_n 3, 1) := by decide +kernel
theorem d_C_init_8 : decode b_C_init 8 = .ok (.iload 4, 2) := by decide +kernel
theorem d_C_init_10 : decode b_C_init 10 = .ok (.invokestatic 7, 3) := by decide +kernel
theorem d_C_init_13 : decode b_C_init 13 = .ok (.putfield 13, 3) := by decide +kernel
theorem d_C_init_16 : decode b_C_init 16 = .ok (.aload_n 0, 1) := by decide +kernel
theorem d_C_init_17 : decode b_C_init 17 = .ok (.bipush 7, 2) := by decide +kernel
theorem d_C_init_19 : decode b_C_init 19 = .ok (.newarray .int, 2) := by decide +kernel
theorem d_C_init_21 : decode b_C_init 21 = .ok (.putfield 19, 3) := by decide +kernel
theorem d_C_init_24 : decode b_C_init 24 = .ok (.aload_n 0, 1) := by decide +kernel
theorem d_C_init_25 : decode b_C_init 25 = .ok (.bipush 7, 2) := by decide +kernel
theorem d_C_init_27 : decode b_C_init 27 = .ok (.newarray .int, 2) := by decide +kernel
theorem d_C_init_29 : decode b_C_init 29 = .ok (.putfield 23, 3) := by decide +kernel
theorem d_C_init_32 : decode b_C_init 32 = .ok (.aload_n 0, 1) := by decide +kernel
theorem d_C_init_33 : decode b_C_init 33 = .ok (.bipush 7, 2) := by decide +kernel
theorem d_C_init_35 : decode b_C_init 35 = .ok (.newarray .int, 2) := by decide +kernel
theorem d_C_init_37 : decode b_C_init 37 = .ok (.putfield 26, 3) := by decide +kernel
theorem d_C_init_40 : decode b_C_init 40 = .ok (.aload_n 0, 1) := by decide +kernel
theorem d_C_init_41 : decode b_C_init 41 = .ok (.bipush 7, 2) := by decide +kernel
theorem d_C_init_43 : decode b_C_init 43 = .ok (.anewarray 29, 3) := by decide +kernel
theorem d_C_init_46 : decode b_C_init 46 = .ok (.putfield 31, 3) := by decide +kernel
theorem d_C_init_49 : decode b_C_init 49 = .ok (.iconst 1, 1) := by decide +kernel
theorem d_C_init_50 : decode b_C_init 50 = .ok (.istore 5, 2) := by decide +kernel
theorem d_C_init_52 : decode b_C_init 52 = .ok (.iload 5, 2) := by decide +kernel
theorem d_C_init_54 : decode b_C_init 54 = .ok (.bipush 7, 2) := by decide +kernel
theorem d_C_init_56 : decode b_C_init 56 = .ok (.if_icmp .gt 27, 3) := by decide +kernel
theorem d_C_init_59 : decode b_C_init 59 = .ok (.aload_n 0, 1) := by decide +kernel
theorem d_C_init_60 : decode b_C_init 60 = .ok (.getfield 31, 3) := by decide +kernel
theorem d_C_init_63 : decode b_C_init 63 = .ok (.iload 5, 2) := by decide +kernel
theorem d_C_init_65 : decode b_C_init 65 = .ok (.iconst 1, 1) := by decide +kernel
theorem d_C_init_66 : decode b_C_init 66 = .ok (.isub, 1) := by decide +kernel
theorem d_C_init_67 : decode b_C_init 67 = .ok (.new 29, 3) := by decide +kernel
theorem d_C_init_70 : decode b_C_init 70 = .ok (.dup, 1) := by decide +kernel
theorem d_C_init_71 : decode b_C_init 71 = .ok (.iload 5, 2) := by decide +kernel
theorem d_C_init_73 : decode b_C_init 73 = .ok (.invokespecial 35, 3) := by decide +kernel
theorem d_C_init_76 : decode b_C_init 76 = .ok (.aastore, 1) := by decide +kernel
theorem d_C_init_77 : decode b_C_init 77 = .ok (.iinc 5 1, 3) := by decide +kernel
theorem d_C_init_80 : decode b_C_init 80 = .ok (.goto (-28), 3) := by decide +kernel
theorem d_C_init_83 : decode b_C_init 83 = .ok (.return_, 1) := by decide +kernel
theorem d_C_group_0 : decode b_C_group 0 = .ok (.iload_n 1, 1) := by decide +kernel
theorem d_C_group_1 : decode b_C_group 1 = .ok (.tableswitch 63 0 3 #[31, 39, 47, 55], 31) := by decide +kernel
theorem d_C_group_32 : decode b_C_group 32 = .ok (.aload_n 0, 1) := by decide +kernel
theorem d_C_group_33 : decode b_C_group 33 = .ok (.getfield 13, 3) := by decide +kernel
theorem d_C_group_36 : decode b_C_group 36 = .ok (.getfield 38, 3) := by decide +kernel
theorem d_C_group_39 : decode b_C_group 39 = .ok (.ireturn, 1) := by decide +kernel
theorem d_C_group_40 : decode b_C_group 40 = .ok (.aload_n 0, 1) := by decide +kernel
theorem d_C_group_41 : decode b_C_group 41 = .ok (.getfield 13, 3) := by decide +kernel
theorem d_C_group_44 : decode b_C_group 44 = .ok (.getfield 42, 3) := by decide +kernel
theorem d_C_group_47 : decode b_C_group 47 = .ok (.ireturn, 1) := by decide +kernel
theorem d_C_group_48 : decode b_C_group 48 = .ok (.aload_n 0, 1) := by decide +kernel
theorem d_C_group_49 : decode b_C_group 49 = .ok (.getfield 13, 3) := by decide +kernel
theorem d_C_group_52 : decode b_C_group 52 = .ok (.getfield 45, 3) := by decide +kernel
theorem d_C_group_55 : decode b_C_group 55 = .ok (.ireturn, 1) := by decide +kernel
theorem d_C_group_56 : decode b_C_group 56 = .ok (.aload_n 0, 1) := by decide +kernel
theorem d_C_group_57 : decode b_C_group 57 = .ok (.getfield 13, 3) := by decide +kernel
theorem d_C_group_60 : decode b_C_group 60 = .ok (.getfield 48, 3) := by decide +kernel
theorem d_C_group_63 : decode b_C_group 63 = .ok (.ireturn, 1) := by decide +kernel
theorem d_C_group_64 : decode b_C_group 64 = .ok (.iconst 0, 1) := by decide +kernel
theorem d_C_group_65 : decode b_C_group 65 = .ok (.ireturn, 1) := by decide +kernel
theorem d_C_begin_0 : decode b_C_begin 0 = .ok (.iload_n 1, 1) := by decide +kernel
theorem d_C_begin_1 : decode b_C_begin 1 = .ok (.iconst 1, 1) := by decide +kernel
theorem d_C_begin_2 : decode b_C_begin 2 = .ok (.if_icmp .lt 30, 3) := by decide +kernel
theorem d_C_begin_5 : decode b_C_begin 5 = .ok (.iload_n 1, 1) := by decide +kernel
theorem d_C_begin_6 : decode b_C_begin 6 = .ok (.bipush 7, 2) := by decide +kernel
theorem d_C_begin_8 : decode b_C_begin 8 = .ok (.if_icmp .gt 24, 3) := by decide +kernel
theorem d_C_begin_11 : decode b_C_begin 11 = .ok (.iload_n 2, 1) := by decide +kernel
theorem d_C_begin_12 : decode b_C_begin 12 = .ok (.iconst 1, 1) := by decide +kernel
theorem d_C_begin_13 : decode b_C_begin 13 = .ok (.if_icmp .lt 19, 3) := by decide +kernel
theorem d_C_begin_16 : decode b_C_begin 16 = .ok (.iload_n 2, 1) := by decide +kernel
theorem d_C_begin_17 : decode b_C_begin 17 = .ok (.iload_n 1, 1) := by decide +kernel
theorem d_C_begin_18 : decode b_C_begin 18 = .ok (.if_icmp .gt 14, 3) := by decide +kernel
theorem d_C_begin_21 : decode b_C_begin 21 = .ok (.aload_n 0, 1) := by decide +kernel
theorem d_C_begin_22 : decode b_C_begin 22 = .ok (.getfield 13, 3) := by decide +kernel
theorem d_C_begin_25 : decode b_C_begin 25 = .ok (.getfield 42, 3) := by decide +kernel
theorem d_C_begin_28 : decode b_C_begin 28 = .ok (.iload_n 1, 1) := by decide +kernel
theorem d_C_begin_29 : decode b_C_begin 29 = .ok (.if_icmp .gt 13, 3) := by decide +kernel
theorem d_C_begin_32 : decode b_C_begin 32 = .ok (.new 51, 3) := by decide +kernel
theorem d_C_begin_35 : decode b_C_begin 35 = .ok (.dup, 1) := by decide +kernel
theorem d_C_begin_36 : decode b_C_begin 36 = .ok (.ldc 53, 2) := by decide +kernel
theorem d_C_begin_38 : decode b_C_begin 38 = .ok (.invokespecial 55, 3) := by decide +kernel
theorem d_C_begin_41 : decode b_C_begin 41 = .ok (.athrow, 1) := by decide +kernel
theorem d_C_begin_42 : decode b_C_begin 42 = .ok (.aload_n 0, 1) := by decide +kernel
theorem d_C_begin_43 : decode b_C_begin 43 = .ok (.iload_n 1, 1) := by decide +kernel
theorem d_C_begin_44 : decode b_C_begin 44 = .ok (.putfield 58, 3) := by decide +kernel
theorem d_C_begin_47 : decode b_C_begin 47 = .ok (.aload_n 0, 1) := by decide +kernel
theorem d_C_begin_48 : decode b_C_begin 48 = .ok (.iload_n 2, 1) := by decide +kernel
theorem d_C_begin_49 : decode b_C_begin 49 = .ok (.putfield 61, 3) := by decide +kernel
theorem d_C_begin_52 : decode b_C_begin 52 = .ok (.aload_n 0, 1) := by decide +kernel
theorem d_C_begin_53 : decode b_C_begin 53 = .ok (.iload_n 3, 1) := by decide +kernel
theorem d_C_begin_54 : decode b_C_begin 54 = .ok (.putfield 64, 3) := by decide +kernel
theorem d_C_begin_57 : decode b_C_begin 57 = .ok (.aload_n 0, 1) := by decide +kernel
theorem d_C_begin_58 : decode b_C_begin 58 = .ok (.getfield 19, 3) := by decide +kernel
theorem d_C_begin_61 : decode b_C_begin 61 = .ok (.iconst 0, 1) := by decide +kernel
theorem d_C_begin_62 : decode b_C_begin 62 = .ok (.invokestatic 68, 3) := by decide +kernel
theorem d_C_begin_65 : decode b_C_begin 65 = .ok (.aload_n 0, 1) := by decide +kernel
theorem d_C_begin_66 : decode b_C_begin 66 = .ok (.getfield 23, 3) := by decide +kernel
theorem d_C_begin_69 : decode b_C_begin 69 = .ok (.iconst 0, 1) := by decide +kernel
theorem d_C_begin_70 : decode b_C_begin 70 = .ok (.invokestatic 68, 3) := by decide +kernel
theorem d_C_begin_73 : decode b_C_begin 73 = .ok (.iconst 0, 1) := by decide +kernel
theorem d_C_begin_74 : decode b_C_begin 74 = .ok (.istore 4, 2) := by decide +kernel
theorem d_C_begin_76 : decode b_C_begin 76 = .ok (.iload 4, 2) := by decide +kernel
theorem d_C_begin_78 : decode b_C_begin 78 = .ok (.iload_n 1, 1) := by decide +kernel
theorem d_C_begin_79 : decode b_C_begin 79 = .ok (.if_icmp .ge 19, 3) := by decide +kernel
theorem d_C_begin_82 : decode b_C_begin 82 = .ok (.aload_n 0, 1) := by decide +kernel
theorem d_C_begin_83 : decode b_C_begin 83 = .ok (.getfield 31, 3) := by decide +kernel
theorem d_C_begin_86 : decode b_C_begin 86 = .ok (.iload 4, 2) := by decide +kernel
theorem d_C_begin_88 : decode b_C_begin 88 = .ok (.aaload, 1) := by decide +kernel
theorem d_C_begin_89 : decode b_C_begin 89 = .ok (.invokevirtual 74, 3) := by decide +kernel
theorem d_C_begin_92 : decode b_C_begin 92 = .ok (.iinc 4 1, 3) := by decide +kernel
theorem d_C_begin_95 : decode b_C_begin 95 = .ok (.goto (-19), 3) := by decide +kernel
theorem d_C_begin_98 : decode b_C_begin 98 = .ok (.aload_n 0, 1) := by decide +kernel
theorem d_C_begin_99 : decode b_C_begin 99 = .ok (.iconst 0, 1) := by decide +kernel
theorem d_C_begin_100 : decode b_C_begin 100 = .ok (.putfield 77, 3) := by decide +kernel
theorem d_C_begin_103 : decode b_C_begin 103 = .ok (.aload_n 0, 1) := by decide +kernel
theorem d_C_begin_104 : decode b_C_begin 104 = .ok (.iconst 1, 1) := by decide +kernel
theorem d_C_begin_105 : decode b_C_begin 105 = .ok (.putfield 80, 3) := by decide +kernel
theorem d_C_begin_108 : decode b_C_begin 108 = .ok (.return_, 1) := by decide +kernel
theorem d_C_coefficient_0 : decode b_C_coefficient 0 = .ok (.aload_n 0, 1) := by decide +kernel
theorem d_C_coefficient_1 : decode b_C_coefficient 1 = .ok (.iconst 1, 1) := by decide +kernel
theorem d_C_coefficient_2 : decode b_C_coefficient 2 = .ok (.invokevirtual 83, 3) := by decide +kernel
theorem d_C_coefficient_5 : decode b_C_coefficient 5 = .ok (.aload_n 0, 1) := by decide +kernel
theorem d_C_coefficient_6 : decode b_C_coefficient 6 = .ok (.iload_n 1, 1) := by decide +kernel
theorem d_C_coefficient_7 : decode b_C_coefficient 7 = .ok (.invokevirtual 86, 3) := by decide +kernel
theorem d_C_coefficient_10 : decode b_C_coefficient 10 = .ok (.aload_n 0, 1) := by decide +kernel
theorem d_C_coefficient_11 : decode b_C_coefficient 11 = .ok (.getfield 19, 3) := by decide +kernel
theorem d_C_coefficient_14 : decode b_C_coefficient 14 = .ok (.iload_n 1, 1) := by decide +kernel
theorem d_C_coefficient_15 : decode b_C_coefficient 15 = .ok (.aload_n 0, 1) := by decide +kernel
theorem d_C_coefficient_16 : decode b_C_coefficient 16 = .ok (.getfield 13, 3) := by decide +kernel
theorem d_C_coefficient_19 : decode b_C_coefficient 19 = .ok (.iload_n 2, 1) := by decide +kernel
theorem d_C_coefficient_20 : decode b_C_coefficient 20 = .ok (.invokevirtual 89, 3) := by decide +kernel
theorem d_C_coefficient_23 : decode b_C_coefficient 23 = .ok (.iastore, 1) := by decide +kernel
theorem d_C_coefficient_24 : decode b_C_coefficient 24 = .ok (.aload_n 0, 1) := by decide +kernel
theorem d_C_coefficient_25 : decode b_C_coefficient 25 = .ok (.getfield 23, 3) := by decide +kernel
theorem d_C_coefficient_28 : decode b_C_coefficient 28 = .ok (.iload_n 1, 1) := by decide +kernel
theorem d_C_coefficient_29 : decode b_C_coefficient 29 = .ok (.aload_n 0, 1) := by decide +kernel
theorem d_C_coefficient_30 : decode b_C_coefficient 30 = .ok (.iload_n 3, 1) := by decide +kernel
theorem d_C_coefficient_31 : decode b_C_coefficient 31 = .ok (.invokevirtual 93, 3) := by decide +kernel
theorem d_C_coefficient_34 : decode b_C_coefficient 34 = .ok (.iastore, 1) := by decide +kernel
theorem d_C_coefficient_35 : decode b_C_coefficient 35 = .ok (.return_, 1) := by decide +kernel
theorem d_C_advance_0 : decode b_C_advance 0 = .ok (.aload_n 0, 1) := by decide +kernel
theorem d_C_advance_1 : decode b_C_advance 1 = .ok (.getfield 80, 3) := by decide +kernel
theorem d_C_advance_4 : decode b_C_advance 4 = .ok (.tableswitch 104 1 4 #[32, 48, 60, 84], 32) := by decide +kernel
theorem d_C_advance_36 : decode b_C_advance 36 = .ok (.aload_n 0, 1) := by decide +kernel
theorem d_C_advance_37 : decode b_C_advance 37 = .ok (.invokevirtual 96, 3) := by decide +kernel
theorem d_C_advance_40 : decode b_C_advance 40 = .ok (.aload_n 0, 1) := by decide +kernel
theorem d_C_advance_41 : decode b_C_advance 41 = .ok (.invokevirtual 99, 3) := by decide +kernel
theorem d_C_advance_44 : decode b_C_advance 44 = .ok (.aload_n 0, 1) := by decide +kernel
theorem d_C_advance_45 : decode b_C_advance 45 = .ok (.iconst 2, 1) := by decide +kernel
theorem d_C_advance_46 : decode b_C_advance 46 = .ok (.putfield 80, 3) := by decide +kernel
theorem d_C_advance_49 : decode b_C_advance 49 = .ok (.goto 69, 3) := by decide +kernel
theorem d_C_advance_52 : decode b_C_advance 52 = .ok (.aload_n 0, 1) := by decide +kernel
theorem d_C_advance_53 : decode b_C_advance 53 = .ok (.invokevirtual 102, 3) := by decide +kernel
theorem d_C_advance_56 : decode b_C_advance 56 = .ok (.aload_n 0, 1) := by decide +kernel
theorem d_C_advance_57 : decode b_C_advance 57 = .ok (.iconst 3, 1) := by decide +kernel
theorem d_C_advance_58 : decode b_C_advance 58 = .ok (.putfield 80, 3) := by decide +kernel
theorem d_C_advance_61 : decode b_C_advance 61 = .ok (.goto 57, 3) := by decide +kernel
theorem d_C_advance_64 : decode b_C_advance 64 = .ok (.aload_n 0, 1) := by decide +kernel
theorem d_C_advance_65 : decode b_C_advance 65 = .ok (.aload_n 0, 1) := by decide +kernel
theorem d_C_advance_66 : decode b_C_advance 66 = .ok (.invokevirtual 105, 3) := by decide +kernel
theorem d_C_advance_69 : decode b_C_advance 69 = .ok (.aload_n 0, 1) := by decide +kernel
theorem d_C_advance_70 : decode b_C_advance 70 = .ok (.getfield 61, 3) := by decide +kernel
theorem d_C_advance_73 : decode b_C_advance 73 = .ok (.if_icmp .lt 8, 3) := by decide +kernel
theorem d_C_advance_76 : decode b_C_advance 76 = .ok (.bipush 6, 2) := by decide +kernel
theorem d_C_advance_78 : decode b_C_advance 78 = .ok (.goto 4, 3) := by decide +kernel
theorem d_C_advance_81 : decode b_C_advance 81 = .ok (.iconst 4, 1) := by decide +kernel
theorem d_C_advance_82 : decode b_C_advance 82 = .ok (.putfield 80, 3) := by decide +kernel
theorem d_C_advance_85 : decode b_C_advance 85 = .ok (.goto 33, 3) := by decide +kernel
theorem d_C_advance_88 : decode b_C_advance 88 = .ok (.aload_n 0, 1) := by decide +kernel
theorem d_C_advance_89 : decode b_C_advance 89 = .ok (.aload_n 0, 1) := by decide +kernel
theorem d_C_advance_90 : decode b_C_advance 90 = .ok (.invokevirtual 109, 3) := by decide +kernel
theorem d_C_advance_93 : decode b_C_advance 93 = .ok (.ifCond .eq 7, 3) := by decide +kernel
theorem d_C_advance_96 : decode b_C_advance 96 = .ok (.iconst 5, 1) := by decide +kernel
theorem d_C_advance_97 : decode b_C_advance 97 = .ok (.goto 5, 3) := by decide +kernel
theorem d_C_advance_100 : decode b_C_advance 100 = .ok (.bipush 6, 2) := by decide +kernel
theorem d_C_advance_102 : decode b_C_advance 102 = .ok (.putfield 80, 3) := by decide +kernel
theorem d_C_advance_105 : decode b_C_advance 105 = .ok (.goto 13, 3) := by decide +kernel
theorem d_C_advance_108 : decode b_C_advance 108 = .ok (.new 113, 3) := by decide +kernel
theorem d_C_advance_111 : decode b_C_advance 111 = .ok (.dup, 1) := by decide +kernel
theorem d_C_advance_112 : decode b_C_advance 112 = .ok (.ldc 115, 2) := by decide +kernel
theorem d_C_advance_114 : decode b_C_advance 114 = .ok (.invokespecial 117, 3) := by decide +kernel
theorem d_C_advance_117 : decode b_C_advance 117 = .ok (.athrow, 1) := by decide +kernel
theorem d_C_advance_118 : decode b_C_advance 118 = .ok (.aload_n 0, 1) := by decide +kernel
theorem d_C_advance_119 : decode b_C_advance 119 = .ok (.getfield 80, 3) := by decide +kernel
theorem d_C_advance_122 : decode b_C_advance 122 = .ok (.ireturn, 1) := by decide +kernel
theorem d_C_tamper_0 : decode b_C_tamper 0 = .ok (.aload_n 0, 1) := by decide +kernel
theorem d_C_tamper_1 : decode b_C_tamper 1 = .ok (.iconst 2, 1) := by decide +kernel
theorem d_C_tamper_2 : decode b_C_tamper 2 = .ok (.invokevirtual 83, 3) := by decide +kernel
theorem d_C_tamper_5 : decode b_C_tamper 5 = .ok (.aload_n 0, 1) := by decide +kernel
theorem d_C_tamper_6 : decode b_C_tamper 6 = .ok (.iload_n 1, 1) := by decide +kernel
theorem d_C_tamper_7 : decode b_C_tamper 7 = .ok (.invokevirtual 118, 3) := by decide +kernel
theorem d_C_tamper_10 : decode b_C_tamper 10 = .ok (.aload_n 0, 1) := by decide +kernel
theorem d_C_tamper_11 : decode b_C_tamper 11 = .ok (.getfield 31, 3) := by decide +kernel
theorem d_C_tamper_14 : decode b_C_tamper 14 = .ok (.iload_n 1, 1) := by decide +kernel
theorem d_C_tamper_15 : decode b_C_tamper 15 = .ok (.iconst 1, 1) := by decide +kernel
theorem d_C_tamper_16 : decode b_C_tamper 16 = .ok (.isub, 1) := by decide +kernel
theorem d_C_tamper_17 : decode b_C_tamper 17 = .ok (.aaload, 1) := by decide +kernel
theorem d_C_tamper_18 : decode b_C_tamper 18 = .ok (.aload_n 0, 1) := by decide +kernel
theorem d_C_tamper_19 : decode b_C_tamper 19 = .ok (.getfield 13, 3) := by decide +kernel
theorem d_C_tamper_22 : decode b_C_tamper 22 = .ok (.iload_n 2, 1) := by decide +kernel
theorem d_C_tamper_23 : decode b_C_tamper 23 = .ok (.invokevirtual 89, 3) := by decide +kernel
theorem d_C_tamper_26 : decode b_C_tamper 26 = .ok (.aload_n 0, 1) := by decide +kernel
theorem d_C_tamper_27 : decode b_C_tamper 27 = .ok (.iload_n 3, 1) := by decide +kernel
theorem d_C_tamper_28 : decode b_C_tamper 28 = .ok (.invokevirtual 93, 3) := by decide +kernel
theorem d_C_tamper_31 : decode b_C_tamper 31 = .ok (.invokevirtual 121, 3) := by decide +kernel
theorem d_C_tamper_34 : decode b_C_tamper 34 = .ok (.return_, 1) := by decide +kernel
theorem d_C_forge_0 : decode b_C_forge 0 = .ok (.aload_n 0, 1) := by decide +kernel
theorem d_C_forge_1 : decode b_C_forge 1 = .ok (.iconst 2, 1) := by decide +kernel
theorem d_C_forge_2 : decode b_C_forge 2 = .ok (.invokevirtual 83, 3) := by decide +kernel
theorem d_C_forge_5 : decode b_C_forge 5 = .ok (.aload_n 0, 1) := by decide +kernel
theorem d_C_forge_6 : decode b_C_forge 6 = .ok (.iload_n 1, 1) := by decide +kernel
theorem d_C_forge_7 : decode b_C_forge 7 = .ok (.invokevirtual 86, 3) := by decide +kernel
theorem d_C_forge_10 : decode b_C_forge 10 = .ok (.iload_n 2, 1) := by decide +kernel
theorem d_C_forge_11 : decode b_C_forge 11 = .ok (.iconst 1, 1) := by decide +kernel
theorem d_C_forge_12 : decode b_C_forge 12 = .ok (.if_icmp .lt 14, 3) := by decide +kernel
theorem d_C_forge_15 : decode b_C_forge 15 = .ok (.iload_n 2, 1) := by decide +kernel
theorem d_C_forge_16 : decode b_C_forge 16 = .ok (.aload_n 0, 1) := by decide +kernel
theorem d_C_forge_17 : decode b_C_forge 17 = .ok (.getfield 13, 3) := by decide +kernel
theorem d_C_forge_20 : decode b_C_forge 20 = .ok (.getfield 38, 3) := by decide +kernel
theorem d_C_forge_23 : decode b_C_forge 23 = .ok (.if_icmp .lt 13, 3) := by decide +kernel
theorem d_C_forge_26 : decode b_C_forge 26 = .ok (.new 51, 3) := by decide +kernel
theorem d_C_forge_29 : decode b_C_forge 29 = .ok (.dup, 1) := by decide +kernel
theorem d_C_forge_30 : decode b_C_forge 30 = .ok (.ldc 125, 2) := by decide +kernel
theorem d_C_forge_32 : decode b_C_forge 32 = .ok (.invokespecial 55, 3) := by decide +kernel
theorem d_C_forge_35 : decode b_C_forge 35 = .ok (.athrow, 1) := by decide +kernel
theorem d_C_forge_36 : decode b_C_forge 36 = .ok (.aload_n 0, 1) := by decide +kernel
theorem d_C_forge_37 : decode b_C_forge 37 = .ok (.getfield 26, 3) := by decide +kernel
theorem d_C_forge_40 : decode b_C_forge 40 = .ok (.iload_n 1, 1) := by decide +kernel
theorem d_C_forge_41 : decode b_C_forge 41 = .ok (.iload_n 2, 1) := by decide +kernel
theorem d_C_forge_42 : decode b_C_forge 42 = .ok (.iastore, 1) := by decide +kernel
theorem d_C_forge_43 : decode b_C_forge 43 = .ok (.return_, 1) := by decide +kernel
theorem d_C_corrupt_0 : decode b_C_corrupt 0 = .ok (.aload_n 0, 1) := by decide +kernel
theorem d_C_corrupt_1 : decode b_C_corrupt 1 = .ok (.getfield 80, 3) := by decide +kernel
theorem d_C_corrupt_4 : decode b_C_corrupt 4 = .ok (.iconst 1, 1) := by decide +kernel
theorem d_C_corrupt_5 : decode b_C_corrupt 5 = .ok (.if_icmp .eq 21, 3) := by decide +kernel
theorem d_C_corrupt_8 : decode b_C_corrupt 8 = .ok (.aload_n 0, 1) := by decide +kernel
theorem d_C_corrupt_9 : decode b_C_corrupt 9 = .ok (.getfield 80, 3) := by decide +kernel
theorem d_C_corrupt_12 : decode b_C_corrupt 12 = .ok (.iconst 2, 1) := by decide +kernel
theorem d_C_corrupt_13 : decode b_C_corrupt 13 = .ok (.if_icmp .eq 13, 3) := by decide +kernel
theorem d_C_corrupt_16 : decode b_C_corrupt 16 = .ok (.new 113, 3) := by decide +kernel
theorem d_C_corrupt_19 : decode b_C_corrupt 19 = .ok (.dup, 1) := by decide +kernel
theorem d_C_corrupt_20 : decode b_C_corrupt 20 = .ok (.ldc 127, 2) := by decide +kernel
theorem d_C_corrupt_22 : decode b_C_corrupt 22 = .ok (.invokespecial 117, 3) := by decide +kernel
theorem d_C_corrupt_25 : decode b_C_corrupt 25 = .ok (.athrow, 1) := by decide +kernel
theorem d_C_corrupt_26 : decode b_C_corrupt 26 = .ok (.aload_n 0, 1) := by decide +kernel
theorem d_C_corrupt_27 : decode b_C_corrupt 27 = .ok (.iload_n 1, 1) := by decide +kernel
theorem d_C_corrupt_28 : decode b_C_corrupt 28 = .ok (.invokevirtual 118, 3) := by decide +kernel
theorem d_C_corrupt_31 : decode b_C_corrupt 31 = .ok (.aload_n 0, 1) := by decide +kernel
theorem d_C_corrupt_32 : decode b_C_corrupt 32 = .ok (.getfield 31, 3) := by decide +kernel
theorem d_C_corrupt_35 : decode b_C_corrupt 35 = .ok (.iload_n 1, 1) := by decide +kernel
theorem d_C_corrupt_36 : decode b_C_corrupt 36 = .ok (.iconst 1, 1) := by decide +kernel
theorem d_C_corrupt_37 : decode b_C_corrupt 37 = .ok (.isub, 1) := by decide +kernel
theorem d_C_corrupt_38 : decode b_C_corrupt 38 = .ok (.aaload, 1) := by decide +kernel
theorem d_C_corrupt_39 : decode b_C_corrupt 39 = .ok (.astore_n 2, 1) := by decide +kernel
theorem d_C_corrupt_40 : decode b_C_corrupt 40 = .ok (.aload_n 2, 1) := by decide +kernel
theorem d_C_corrupt_41 : decode b_C_corrupt 41 = .ok (.getfield 129, 3) := by decide +kernel
theorem d_C_corrupt_44 : decode b_C_corrupt 44 = .ok (.ifCond .ne 7, 3) := by decide +kernel
theorem d_C_corrupt_47 : decode b_C_corrupt 47 = .ok (.iconst 1, 1) := by decide +kernel
theorem d_C_corrupt_48 : decode b_C_corrupt 48 = .ok (.goto 4, 3) := by decide +kernel
theorem d_C_corrupt_51 : decode b_C_corrupt 51 = .ok (.iconst 0, 1) := by decide +kernel
theorem d_C_corrupt_52 : decode b_C_corrupt 52 = .ok (.istore_n 3, 1) := by decide +kernel
theorem d_C_corrupt_53 : decode b_C_corrupt 53 = .ok (.aload_n 2, 1) := by decide +kernel
theorem d_C_corrupt_54 : decode b_C_corrupt 54 = .ok (.iconst 1, 1) := by decide +kernel
theorem d_C_corrupt_55 : decode b_C_corrupt 55 = .ok (.putfield 129, 3) := by decide +kernel
theorem d_C_corrupt_58 : decode b_C_corrupt 58 = .ok (.iload_n 3, 1) := by decide +kernel
theorem d_C_corrupt_59 : decode b_C_corrupt 59 = .ok (.ireturn, 1) := by decide +kernel
theorem d_C_accuse_0 : decode b_C_accuse 0 = .ok (.aload_n 0, 1) := by decide +kernel
theorem d_C_accuse_1 : decode b_C_accuse 1 = .ok (.iconst 3, 1) := by decide +kernel
theorem d_C_accuse_2 : decode b_C_accuse 2 = .ok (.invokevirtual 83, 3) := by decide +kernel
theorem d_C_accuse_5 : decode b_C_accuse 5 = .ok (.aload_n 0, 1) := by decide +kernel
theorem d_C_accuse_6 : decode b_C_accuse 6 = .ok (.iload_n 1, 1) := by decide +kernel
theorem d_C_accuse_7 : decode b_C_accuse 7 = .ok (.invokevirtual 118, 3) := by decide +kernel
theorem d_C_accuse_10 : decode b_C_accuse 10 = .ok (.aload_n 0, 1) := by decide +kernel
theorem d_C_accuse_11 : decode b_C_accuse 11 = .ok (.getfield 31, 3) := by decide +kernel
theorem d_C_accuse_14 : decode b_C_accuse 14 = .ok (.iload_n 1, 1) := by decide +kernel
theorem d_C_accuse_15 : decode b_C_accuse 15 = .ok (.iconst 1, 1) := by decide +kernel
theorem d_C_accuse_16 : decode b_C_accuse 16 = .ok (.isub, 1) := by decide +kernel
theorem d_C_accuse_17 : decode b_C_accuse 17 = .ok (.aaload, 1) := by decide +kernel
theorem d_C_accuse_18 : decode b_C_accuse 18 = .ok (.astore_n 2, 1) := by decide +kernel
theorem d_C_accuse_19 : decode b_C_accuse 19 = .ok (.aload_n 2, 1) := by decide +kernel
theorem d_C_accuse_20 : decode b_C_accuse 20 = .ok (.getfield 129, 3) := by decide +kernel
theorem d_C_accuse_23 : decode b_C_accuse 23 = .ok (.ifCond .eq 10, 3) := by decide +kernel
theorem d_C_accuse_26 : decode b_C_accuse 26 = .ok (.aload_n 2, 1) := by decide +kernel
theorem d_C_accuse_27 : decode b_C_accuse 27 = .ok (.getfield 132, 3) := by decide +kernel
theorem d_C_accuse_30 : decode b_C_accuse 30 = .ok (.ifCond .eq 5, 3) := by decide +kernel
theorem d_C_accuse_33 : decode b_C_accuse 33 = .ok (.iconst 0, 1) := by decide +kernel
theorem d_C_accuse_34 : decode b_C_accuse 34 = .ok (.ireturn, 1) := by decide +kernel
theorem d_C_accuse_35 : decode b_C_accuse 35 = .ok (.aload_n 2, 1) := by decide +kernel
theorem d_C_accuse_36 : decode b_C_accuse 36 = .ok (.iconst 1, 1) := by decide +kernel
theorem d_C_accuse_37 : decode b_C_accuse 37 = .ok (.putfield 132, 3) := by decide +kernel
theorem d_C_accuse_40 : decode b_C_accuse 40 = .ok (.iconst 1, 1) := by decide +kernel
theorem d_C_accuse_41 : decode b_C_accuse 41 = .ok (.ireturn, 1) := by decide +kernel
theorem d_C_answer_0 : decode b_C_answer 0 = .ok (.aload_n 0, 1) := by decide +kernel
theorem d_C_answer_1 : decode b_C_answer 1 = .ok (.iconst 4, 1) := by decide +kernel
theorem d_C_answer_2 : decode b_C_answer 2 = .ok (.invokevirtual 83, 3) := by decide +kernel
theorem d_C_answer_5 : decode b_C_answer 5 = .ok (.aload_n 0, 1) := by decide +kernel
theorem d_C_answer_6 : decode b_C_answer 6 = .ok (.iload_n 1, 1) := by decide +kernel
theorem d_C_answer_7 : decode b_C_answer 7 = .ok (.invokevirtual 118, 3) := by decide +kernel
theorem d_C_answer_10 : decode b_C_answer 10 = .ok (.aload_n 0, 1) := by decide +kernel
theorem d_C_answer_11 : decode b_C_answer 11 = .ok (.getfield 31, 3) := by decide +kernel
theorem d_C_answer_14 : decode b_C_answer 14 = .ok (.iload_n 1, 1) := by decide +kernel
theorem d_C_answer_15 : decode b_C_answer 15 = .ok (.iconst 1, 1) := by decide +kernel
theorem d_C_answer_16 : decode b_C_answer 16 = .ok (.isub, 1) := by decide +kernel
theorem d_C_answer_17 : decode b_C_answer 17 = .ok (.aaload, 1) := by decide +kernel
theorem d_C_answer_18 : decode b_C_answer 18 = .ok (.astore 4, 2) := by decide +kernel
theorem d_C_answer_20 : decode b_C_answer 20 = .ok (.aload 4, 2) := by decide +kernel
theorem d_C_answer_22 : decode b_C_answer 22 = .ok (.getfield 132, 3) := by decide +kernel
theorem d_C_answer_25 : decode b_C_answer 25 = .ok (.ifCond .ne 13, 3) := by decide +kernel
theorem d_C_answer_28 : decode b_C_answer 28 = .ok (.new 135, 3) := by decide +kernel
theorem d_C_answer_31 : decode b_C_answer 31 = .ok (.dup, 1) := by decide +kernel
theorem d_C_answer_32 : decode b_C_answer 32 = .ok (.ldc 137, 2) := by decide +kernel
theorem d_C_answer_34 : decode b_C_answer 34 = .ok (.invokespecial 139, 3) := by decide +kernel
theorem d_C_answer_37 : decode b_C_answer 37 = .ok (.athrow, 1) := by decide +kernel
theorem d_C_answer_38 : decode b_C_answer 38 = .ok (.aload 4, 2) := by decide +kernel
theorem d_C_answer_40 : decode b_C_answer 40 = .ok (.aload_n 0, 1) := by decide +kernel
theorem d_C_answer_41 : decode b_C_answer 41 = .ok (.getfield 13, 3) := by decide +kernel
theorem d_C_answer_44 : decode b_C_answer 44 = .ok (.iload_n 2, 1) := by decide +kernel
theorem d_C_answer_45 : decode b_C_answer 45 = .ok (.invokevirtual 89, 3) := by decide +kernel
theorem d_C_answer_48 : decode b_C_answer 48 = .ok (.aload_n 0, 1) := by decide +kernel
theorem d_C_answer_49 : decode b_C_answer 49 = .ok (.iload_n 3, 1) := by decide +kernel
theorem d_C_answer_50 : decode b_C_answer 50 = .ok (.invokevirtual 93, 3) := by decide +kernel
theorem d_C_answer_53 : decode b_C_answer 53 = .ok (.invokevirtual 121, 3) := by decide +kernel
theorem d_C_answer_56 : decode b_C_answer 56 = .ok (.aload 4, 2) := by decide +kernel
theorem d_C_answer_58 : decode b_C_answer 58 = .ok (.aload_n 0, 1) := by decide +kernel
theorem d_C_answer_59 : decode b_C_answer 59 = .ok (.aload 4, 2) := by decide +kernel
theorem d_C_answer_61 : decode b_C_answer 61 = .ok (.invokevirtual 140, 3) := by decide +kernel
theorem d_C_answer_64 : decode b_C_answer 64 = .ok (.putfield 144, 3) := by decide +kernel
theorem d_C_answer_67 : decode b_C_answer 67 = .ok (.aload 4, 2) := by decide +kernel
theorem d_C_answer_69 : decode b_C_answer 69 = .ok (.getfield 144, 3) := by decide +kernel
theorem d_C_answer_72 : decode b_C_answer 72 = .ok (.ireturn, 1) := by decide +kernel
theorem d_C_open_0 : decode b_C_open 0 = .ok (.aload_n 0, 1) := by decide +kernel
theorem d_C_open_1 : decode b_C_open 1 = .ok (.iconst 5, 1) := by decide +kernel
theorem d_C_open_2 : decode b_C_open 2 = .ok (.invokevirtual 83, 3) := by decide +kernel
theorem d_C_open_5 : decode b_C_open 5 = .ok (.aload_n 0, 1) := by decide +kernel
theorem d_C_open_6 : decode b_C_open 6 = .ok (.iload_n 1, 1) := by decide +kernel
theorem d_C_open_7 : decode b_C_open 7 = .ok (.invokevirtual 118, 3) := by decide +kernel
theorem d_C_open_10 : decode b_C_open 10 = .ok (.aload_n 0, 1) := by decide +kernel
theorem d_C_open_11 : decode b_C_open 11 = .ok (.getfield 31, 3) := by decide +kernel
theorem d_C_open_14 : decode b_C_open 14 = .ok (.iload_n 1, 1) := by decide +kernel
theorem d_C_open_15 : decode b_C_open 15 = .ok (.iconst 1, 1) := by decide +kernel
theorem d_C_open_16 : decode b_C_open 16 = .ok (.isub, 1) := by decide +kernel
theorem d_C_open_17 : decode b_C_open 17 = .ok (.aaload, 1) := by decide +kernel
theorem d_C_open_18 : decode b_C_open 18 = .ok (.astore_n 2, 1) := by decide +kernel
theorem d_C_open_19 : decode b_C_open 19 = .ok (.aload_n 0, 1) := by decide +kernel
theorem d_C_open_20 : decode b_C_open 20 = .ok (.aload_n 2, 1) := by decide +kernel
theorem d_C_open_21 : decode b_C_open 21 = .ok (.aload_n 2, 1) := by decide +kernel
theorem d_C_open_22 : decode b_C_open 22 = .ok (.getfield 147, 3) := by decide +kernel
theorem d_C_open_25 : decode b_C_open 25 = .ok (.aload_n 2, 1) := by decide +kernel
theorem d_C_open_26 : decode b_C_open 26 = .ok (.getfield 150, 3) := by decide +kernel
theorem d_C_open_29 : decode b_C_open 29 = .ok (.invokevirtual 153, 3) := by decide +kernel
theorem d_C_open_32 : decode b_C_open 32 = .ok (.ireturn, 1) := by decide +kernel
theorem d_C_show_0 : decode b_C_show 0 = .ok (.aload_n 0, 1) := by decide +kernel
theorem d_C_show_1 : decode b_C_show 1 = .ok (.iconst 5, 1) := by decide +kernel
theorem d_C_show_2 : decode b_C_show 2 = .ok (.invokevirtual 83, 3) := by decide +kernel
theorem d_C_show_5 : decode b_C_show 5 = .ok (.aload_n 0, 1) := by decide +kernel
theorem d_C_show_6 : decode b_C_show 6 = .ok (.iload_n 1, 1) := by decide +kernel
theorem d_C_show_7 : decode b_C_show 7 = .ok (.invokevirtual 118, 3) := by decide +kernel
theorem d_C_show_10 : decode b_C_show 10 = .ok (.aload_n 0, 1) := by decide +kernel
theorem d_C_show_11 : decode b_C_show 11 = .ok (.aload_n 0, 1) := by decide +kernel
theorem d_C_show_12 : decode b_C_show 12 = .ok (.getfield 31, 3) := by decide +kernel
theorem d_C_show_15 : decode b_C_show 15 = .ok (.iload_n 1, 1) := by decide +kernel
theorem d_C_show_16 : decode b_C_show 16 = .ok (.iconst 1, 1) := by decide +kernel
theorem d_C_show_17 : decode b_C_show 17 = .ok (.isub, 1) := by decide +kernel
theorem d_C_show_18 : decode b_C_show 18 = .ok (.aaload, 1) := by decide +kernel
theorem d_C_show_19 : decode b_C_show 19 = .ok (.aload_n 0, 1) := by decide +kernel
theorem d_C_show_20 : decode b_C_show 20 = .ok (.getfield 13, 3) := by decide +kernel
theorem d_C_show_23 : decode b_C_show 23 = .ok (.iload_n 2, 1) := by decide +kernel
theorem d_C_show_24 : decode b_C_show 24 = .ok (.invokevirtual 89, 3) := by decide +kernel
theorem d_C_show_27 : decode b_C_show 27 = .ok (.aload_n 0, 1) := by decide +kernel
theorem d_C_show_28 : decode b_C_show 28 = .ok (.getfield 13, 3) := by decide +kernel
theorem d_C_show_31 : decode b_C_show 31 = .ok (.iload_n 3, 1) := by decide +kernel
theorem d_C_show_32 : decode b_C_show 32 = .ok (.invokevirtual 89, 3) := by decide +kernel
theorem d_C_show_35 : decode b_C_show 35 = .ok (.invokevirtual 153, 3) := by decide +kernel
theorem d_C_show_38 : decode b_C_show 38 = .ok (.ireturn, 1) := by decide +kernel
theorem d_C_secret_0 : decode b_C_secret 0 = .ok (.aload_n 0, 1) := by decide +kernel
theorem d_C_secret_1 : decode b_C_secret 1 = .ok (.iconst 5, 1) := by decide +kernel
theorem d_C_secret_2 : decode b_C_secret 2 = .ok (.invokevirtual 83, 3) := by decide +kernel
theorem d_C_secret_5 : decode b_C_secret 5 = .ok (.aload_n 0, 1) := by decide +kernel
theorem d_C_secret_6 : decode b_C_secret 6 = .ok (.invokevirtual 157, 3) := by decide +kernel
theorem d_C_secret_9 : decode b_C_secret 9 = .ok (.aload_n 0, 1) := by decide +kernel
theorem d_C_secret_10 : decode b_C_secret 10 = .ok (.getfield 61, 3) := by decide +kernel
theorem d_C_secret_13 : decode b_C_secret 13 = .ok (.if_icmp .ge 13, 3) := by decide +kernel
theorem d_C_secret_16 : decode b_C_secret 16 = .ok (.new 135, 3) := by decide +kernel
theorem d_C_secret_19 : decode b_C_secret 19 = .ok (.dup, 1) := by decide +kernel
theorem d_C_secret_20 : decode b_C_secret 20 = .ok (.ldc 160, 2) := by decide +kernel
theorem d_C_secret_22 : decode b_C_secret 22 = .ok (.invokespecial 139, 3) := by decide +kernel
theorem d_C_secret_25 : decode b_C_secret 25 = .ok (.athrow, 1) := by decide +kernel
theorem d_C_secret_26 : decode b_C_secret 26 = .ok (.aload_n 0, 1) := by decide +kernel
theorem d_C_secret_27 : decode b_C_secret 27 = .ok (.invokevirtual 162, 3) := by decide +kernel
theorem d_C_secret_30 : decode b_C_secret 30 = .ok (.istore_n 1, 1) := by decide +kernel
theorem d_C_secret_31 : decode b_C_secret 31 = .ok (.iconst 0, 1) := by decide +kernel
theorem d_C_secret_32 : decode b_C_secret 32 = .ok (.istore_n 2, 1) := by decide +kernel
theorem d_C_secret_33 : decode b_C_secret 33 = .ok (.iconst 1, 1) := by decide +kernel
theorem d_C_secret_34 : decode b_C_secret 34 = .ok (.istore_n 3, 1) := by decide +kernel
theorem d_C_secret_35 : decode b_C_secret 35 = .ok (.iload_n 3, 1) := by decide +kernel
theorem d_C_secret_36 : decode b_C_secret 36 = .ok (.iload_n 1, 1) := by decide +kernel
theorem d_C_secret_37 : decode b_C_secret 37 = .ok (.if_icmp .gt 60, 3) := by decide +kernel
theorem d_C_secret_40 : decode b_C_secret 40 = .ok (.aload_n 0, 1) := by decide +kernel
theorem d_C_secret_41 : decode b_C_secret 41 = .ok (.getfield 31, 3) := by decide +kernel
theorem d_C_secret_44 : decode b_C_secret 44 = .ok (.iload_n 3, 1) := by decide +kernel
theorem d_C_secret_45 : decode b_C_secret 45 = .ok (.iconst 1, 1) := by decide +kernel
theorem d_C_secret_46 : decode b_C_secret 46 = .ok (.isub, 1) := by decide +kernel
theorem d_C_secret_47 : decode b_C_secret 47 = .ok (.aaload, 1) := by decide +kernel
theorem d_C_secret_48 : decode b_C_secret 48 = .ok (.getfield 165, 3) := by decide +kernel
theorem d_C_secret_51 : decode b_C_secret 51 = .ok (.ifCond .eq 40, 3) := by decide +kernel
theorem d_C_secret_54 : decode b_C_secret 54 = .ok (.aload_n 0, 1) := by decide +kernel
theorem d_C_secret_55 : decode b_C_secret 55 = .ok (.getfield 13, 3) := by decide +kernel
theorem d_C_secret_58 : decode b_C_secret 58 = .ok (.aload_n 0, 1) := by decide +kernel
theorem d_C_secret_59 : decode b_C_secret 59 = .ok (.getfield 31, 3) := by decide +kernel
theorem d_C_secret_62 : decode b_C_secret 62 = .ok (.iload_n 3, 1) := by decide +kernel
theorem d_C_secret_63 : decode b_C_secret 63 = .ok (.iconst 1, 1) := by decide +kernel
theorem d_C_secret_64 : decode b_C_secret 64 = .ok (.isub, 1) := by decide +kernel
theorem d_C_secret_65 : decode b_C_secret 65 = .ok (.aaload, 1) := by decide +kernel
theorem d_C_secret_66 : decode b_C_secret 66 = .ok (.getfield 168, 3) := by decide +kernel
theorem d_C_secret_69 : decode b_C_secret 69 = .ok (.aload_n 0, 1) := by decide +kernel
theorem d_C_secret_70 : decode b_C_secret 70 = .ok (.iload_n 3, 1) := by decide +kernel
theorem d_C_secret_71 : decode b_C_secret 71 = .ok (.iload_n 1, 1) := by decide +kernel
theorem d_C_secret_72 : decode b_C_secret 72 = .ok (.invokevirtual 171, 3) := by decide +kernel
theorem d_C_secret_75 : decode b_C_secret 75 = .ok (.invokevirtual 175, 3) := by decide +kernel
theorem d_C_secret_78 : decode b_C_secret 78 = .ok (.istore 4, 2) := by decide +kernel
theorem d_C_secret_80 : decode b_C_secret 80 = .ok (.aload_n 0, 1) := by decide +kernel
theorem d_C_secret_81 : decode b_C_secret 81 = .ok (.getfield 13, 3) := by decide +kernel
theorem d_C_secret_84 : decode b_C_secret 84 = .ok (.iload_n 2, 1) := by decide +kernel
theorem d_C_secret_85 : decode b_C_secret 85 = .ok (.iload 4, 2) := by decide +kernel
theorem d_C_secret_87 : decode b_C_secret 87 = .ok (.invokevirtual 178, 3) := by decide +kernel
theorem d_C_secret_90 : decode b_C_secret 90 = .ok (.istore_n 2, 1) := by decide +kernel
theorem d_C_secret_91 : decode b_C_secret 91 = .ok (.iinc 3 1, 3) := by decide +kernel
theorem d_C_secret_94 : decode b_C_secret 94 = .ok (.goto (-59), 3) := by decide +kernel
theorem d_C_secret_97 : decode b_C_secret 97 = .ok (.iload_n 2, 1) := by decide +kernel
theorem d_C_secret_98 : decode b_C_secret 98 = .ok (.ireturn, 1) := by decide +kernel
theorem d_C_relation_0 : decode b_C_relation 0 = .ok (.aload_n 0, 1) := by decide +kernel
theorem d_C_relation_1 : decode b_C_relation 1 = .ok (.iconst 5, 1) := by decide +kernel
theorem d_C_relation_2 : decode b_C_relation 2 = .ok (.invokevirtual 83, 3) := by decide +kernel
theorem d_C_relation_5 : decode b_C_relation 5 = .ok (.aload_n 0, 1) := by decide +kernel
theorem d_C_relation_6 : decode b_C_relation 6 = .ok (.getfield 77, 3) := by decide +kernel
theorem d_C_relation_9 : decode b_C_relation 9 = .ok (.ifCond .ne 13, 3) := by decide +kernel
theorem d_C_relation_12 : decode b_C_relation 12 = .ok (.new 135, 3) := by decide +kernel
theorem d_C_relation_15 : decode b_C_relation 15 = .ok (.dup, 1) := by decide +kernel
theorem d_C_relation_16 : decode b_C_relation 16 = .ok (.ldc 181, 2) := by decide +kernel
theorem d_C_relation_18 : decode b_C_relation 18 = .ok (.invokespecial 139, 3) := by decide +kernel
theorem d_C_relation_21 : decode b_C_relation 21 = .ok (.athrow, 1) := by decide +kernel
theorem d_C_relation_22 : decode b_C_relation 22 = .ok (.aload_n 0, 1) := by decide +kernel
theorem d_C_relation_23 : decode b_C_relation 23 = .ok (.getfield 183, 3) := by decide +kernel
theorem d_C_relation_26 : decode b_C_relation 26 = .ok (.ireturn, 1) := by decide +kernel
theorem d_C_stage_0 : decode b_C_stage 0 = .ok (.aload_n 0, 1) := by decide +kernel
theorem d_C_stage_1 : decode b_C_stage 1 = .ok (.getfield 80, 3) := by decide +kernel
theorem d_C_stage_4 : decode b_C_stage 4 = .ok (.ireturn, 1) := by decide +kernel
theorem d_C_commitment_0 : decode b_C_commitment 0 = .ok (.aload_n 0, 1) := by decide +kernel
theorem d_C_commitment_1 : decode b_C_commitment 1 = .ok (.invokevirtual 186, 3) := by decide +kernel
theorem d_C_commitment_4 : decode b_C_commitment 4 = .ok (.ifCond .eq 20, 3) := by decide +kernel
theorem d_C_commitment_7 : decode b_C_commitment 7 = .ok (.aload_n 0, 1) := by decide +kernel
theorem d_C_commitment_8 : decode b_C_commitment 8 = .ok (.iload_n 1, 1) := by decide +kernel
theorem d_C_commitment_9 : decode b_C_commitment 9 = .ok (.invokevirtual 189, 3) := by decide +kernel
theorem d_C_commitment_12 : decode b_C_commitment 12 = .ok (.ifCond .eq 12, 3) := by decide +kernel
theorem d_C_commitment_15 : decode b_C_commitment 15 = .ok (.aload_n 0, 1) := by decide +kernel
theorem d_C_commitment_16 : decode b_C_commitment 16 = .ok (.getfield 26, 3) := by decide +kernel
theorem d_C_commitment_19 : decode b_C_commitment 19 = .ok (.iload_n 1, 1) := by decide +kernel
theorem d_C_commitment_20 : decode b_C_commitment 20 = .ok (.iaload, 1) := by decide +kernel
theorem d_C_commitment_21 : decode b_C_commitment 21 = .ok (.goto 4, 3) := by decide +kernel
theorem d_C_commitment_24 : decode b_C_commitment 24 = .ok (.iconst 0, 1) := by decide +kernel
theorem d_C_commitment_25 : decode b_C_commitment 25 = .ok (.ireturn, 1) := by decide +kernel
theorem d_C_share_0 : decode b_C_share 0 = .ok (.aload_n 0, 1) := by decide +kernel
theorem d_C_share_1 : decode b_C_share 1 = .ok (.invokevirtual 186, 3) := by decide +kernel
theorem d_C_share_4 : decode b_C_share 4 = .ok (.ifCond .eq 11, 3) := by decide +kernel
theorem d_C_share_7 : decode b_C_share 7 = .ok (.aload_n 0, 1) := by decide +kernel
theorem d_C_share_8 : decode b_C_share 8 = .ok (.iload_n 1, 1) := by decide +kernel
theorem d_C_share_9 : decode b_C_share 9 = .ok (.invokevirtual 193, 3) := by decide +kernel
theorem d_C_share_12 : decode b_C_share 12 = .ok (.ifCond .ne 5, 3) := by decide +kernel
theorem d_C_share_15 : decode b_C_share 15 = .ok (.iconst (-1), 1) := by decide +kernel
theorem d_C_share_16 : decode b_C_share 16 = .ok (.ireturn, 1) := by decide +kernel
theorem d_C_share_17 : decode b_C_share 17 = .ok (.iload_n 2, 1) := by decide +kernel
theorem d_C_share_18 : decode b_C_share 18 = .ok (.lookupswitch 50 #[(0, 26), (1, 38)], 26) := by decide +kernel
theorem d_C_share_44 : decode b_C_share 44 = .ok (.aload_n 0, 1) := by decide +kernel
theorem d_C_share_45 : decode b_C_share 45 = .ok (.getfield 31, 3) := by decide +kernel
theorem d_C_share_48 : decode b_C_share 48 = .ok (.iload_n 1, 1) := by decide +kernel
theorem d_C_share_49 : decode b_C_share 49 = .ok (.iconst 1, 1) := by decide +kernel
theorem d_C_share_50 : decode b_C_share 50 = .ok (.isub, 1) := by decide +kernel
theorem d_C_share_51 : decode b_C_share 51 = .ok (.aaload, 1) := by decide +kernel
theorem d_C_share_52 : decode b_C_share 52 = .ok (.getfield 147, 3) := by decide +kernel
theorem d_C_share_55 : decode b_C_share 55 = .ok (.ireturn, 1) := by decide +kernel
theorem d_C_share_56 : decode b_C_share 56 = .ok (.aload_n 0, 1) := by decide +kernel
theorem d_C_share_57 : decode b_C_share 57 = .ok (.getfield 31, 3) := by decide +kernel
theorem d_C_share_60 : decode b_C_share 60 = .ok (.iload_n 1, 1) := by decide +kernel
theorem d_C_share_61 : decode b_C_share 61 = .ok (.iconst 1, 1) := by decide +kernel
theorem d_C_share_62 : decode b_C_share 62 = .ok (.isub, 1) := by decide +kernel
theorem d_C_share_63 : decode b_C_share 63 = .ok (.aaload, 1) := by decide +kernel
theorem d_C_share_64 : decode b_C_share 64 = .ok (.getfield 150, 3) := by decide +kernel
theorem d_C_share_67 : decode b_C_share 67 = .ok (.ireturn, 1) := by decide +kernel
theorem d_C_share_68 : decode b_C_share 68 = .ok (.iconst (-1), 1) := by decide +kernel
theorem d_C_share_69 : decode b_C_share 69 = .ok (.ireturn, 1) := by decide +kernel
theorem d_C_fits_0 : decode b_C_fits 0 = .ok (.aload_n 0, 1) := by decide +kernel
theorem d_C_fits_1 : decode b_C_fits 1 = .ok (.invokevirtual 186, 3) := by decide +kernel
theorem d_C_fits_4 : decode b_C_fits 4 = .ok (.ifCond .eq 30, 3) := by decide +kernel
theorem d_C_fits_7 : decode b_C_fits 7 = .ok (.aload_n 0, 1) := by decide +kernel
theorem d_C_fits_8 : decode b_C_fits 8 = .ok (.iload_n 1, 1) := by decide +kernel
theorem d_C_fits_9 : decode b_C_fits 9 = .ok (.invokevirtual 193, 3) := by decide +kernel
theorem d_C_fits_12 : decode b_C_fits 12 = .ok (.ifCond .eq 22, 3) := by decide +kernel
theorem d_C_fits_15 : decode b_C_fits 15 = .ok (.aload_n 0, 1) := by decide +kernel
theorem d_C_fits_16 : decode b_C_fits 16 = .ok (.aload_n 0, 1) := by decide +kernel
theorem d_C_fits_17 : decode b_C_fits 17 = .ok (.getfield 31, 3) := by decide +kernel
theorem d_C_fits_20 : decode b_C_fits 20 = .ok (.iload_n 1, 1) := by decide +kernel
theorem d_C_fits_21 : decode b_C_fits 21 = .ok (.iconst 1, 1) := by decide +kernel
theorem d_C_fits_22 : decode b_C_fits 22 = .ok (.isub, 1) := by decide +kernel
theorem d_C_fits_23 : decode b_C_fits 23 = .ok (.aaload, 1) := by decide +kernel
theorem d_C_fits_24 : decode b_C_fits 24 = .ok (.invokevirtual 140, 3) := by decide +kernel
theorem d_C_fits_27 : decode b_C_fits 27 = .ok (.ifCond .eq 7, 3) := by decide +kernel
theorem d_C_fits_30 : decode b_C_fits 30 = .ok (.iconst 1, 1) := by decide +kernel
theorem d_C_fits_31 : decode b_C_fits 31 = .ok (.goto 4, 3) := by decide +kernel
theorem d_C_fits_34 : decode b_C_fits 34 = .ok (.iconst 0, 1) := by decide +kernel
theorem d_C_fits_35 : decode b_C_fits 35 = .ok (.ireturn, 1) := by decide +kernel
theorem d_C_complaints_0 : decode b_C_complaints 0 = .ok (.iconst 0, 1) := by decide +kernel
theorem d_C_complaints_1 : decode b_C_complaints 1 = .ok (.istore_n 1, 1) := by decide +kernel
theorem d_C_complaints_2 : decode b_C_complaints 2 = .ok (.iconst 0, 1) := by decide +kernel
theorem d_C_complaints_3 : decode b_C_complaints 3 = .ok (.istore_n 2, 1) := by decide +kernel
theorem d_C_complaints_4 : decode b_C_complaints 4 = .ok (.iload_n 2, 1) := by decide +kernel
theorem d_C_complaints_5 : decode b_C_complaints 5 = .ok (.aload_n 0, 1) := by decide +kernel
theorem d_C_complaints_6 : decode b_C_complaints 6 = .ok (.getfield 58, 3) := by decide +kernel
theorem d_C_complaints_9 : decode b_C_complaints 9 = .ok (.if_icmp .ge 24, 3) := by decide +kernel
theorem d_C_complaints_12 : decode b_C_complaints 12 = .ok (.aload_n 0, 1) := by decide +kernel
theorem d_C_complaints_13 : decode b_C_complaints 13 = .ok (.getfield 31, 3) := by decide +kernel
theorem d_C_complaints_16 : decode b_C_complaints 16 = .ok (.iload_n 2, 1) := by decide +kernel
theorem d_C_complaints_17 : decode b_C_complaints 17 = .ok (.aaload, 1) := by decide +kernel
theorem d_C_complaints_18 : decode b_C_complaints 18 = .ok (.getfield 132, 3) := by decide +kernel
theorem d_C_complaints_21 : decode b_C_complaints 21 = .ok (.ifCond .eq 6, 3) := by decide +kernel
theorem d_C_complaints_24 : decode b_C_complaints 24 = .ok (.iinc 1 1, 3) := by decide +kernel
theorem d_C_complaints_27 : decode b_C_complaints 27 = .ok (.iinc 2 1, 3) := by decide +kernel
theorem d_C_complaints_30 : decode b_C_complaints 30 = .ok (.goto (-26), 3) := by decide +kernel
theorem d_C_complaints_33 : decode b_C_complaints 33 = .ok (.iload_n 1, 1) := by decide +kernel
theorem d_C_complaints_34 : decode b_C_complaints 34 = .ok (.ireturn, 1) := by decide +kernel
theorem d_C_opened_0 : decode b_C_opened 0 = .ok (.iconst 0, 1) := by decide +kernel
theorem d_C_opened_1 : decode b_C_opened 1 = .ok (.istore_n 1, 1) := by decide +kernel
theorem d_C_opened_2 : decode b_C_opened 2 = .ok (.iconst 0, 1) := by decide +kernel
theorem d_C_opened_3 : decode b_C_opened 3 = .ok (.istore_n 2, 1) := by decide +kernel
theorem d_C_opened_4 : decode b_C_opened 4 = .ok (.iload_n 2, 1) := by decide +kernel
theorem d_C_opened_5 : decode b_C_opened 5 = .ok (.aload_n 0, 1) := by decide +kernel
theorem d_C_opened_6 : decode b_C_opened 6 = .ok (.getfield 58, 3) := by decide +kernel
theorem d_C_opened_9 : decode b_C_opened 9 = .ok (.if_icmp .ge 24, 3) := by decide +kernel
theorem d_C_opened_12 : decode b_C_opened 12 = .ok (.aload_n 0, 1) := by decide +kernel
theorem d_C_opened_13 : decode b_C_opened 13 = .ok (.getfield 31, 3) := by decide +kernel
theorem d_C_opened_16 : decode b_C_opened 16 = .ok (.iload_n 2, 1) := by decide +kernel
theorem d_C_opened_17 : decode b_C_opened 17 = .ok (.aaload, 1) := by decide +kernel
theorem d_C_opened_18 : decode b_C_opened 18 = .ok (.getfield 165, 3) := by decide +kernel
theorem d_C_opened_21 : decode b_C_opened 21 = .ok (.ifCond .eq 6, 3) := by decide +kernel
theorem d_C_opened_24 : decode b_C_opened 24 = .ok (.iinc 1 1, 3) := by decide +kernel
theorem d_C_opened_27 : decode b_C_opened 27 = .ok (.iinc 2 1, 3) := by decide +kernel
theorem d_C_opened_30 : decode b_C_opened 30 = .ok (.goto (-26), 3) := by decide +kernel
theorem d_C_opened_33 : decode b_C_opened 33 = .ok (.iload_n 1, 1) := by decide +kernel
theorem d_C_opened_34 : decode b_C_opened 34 = .ok (.ireturn, 1) := by decide +kernel
theorem d_C_demandStage_0 : decode b_C_demandStage 0 = .ok (.aload_n 0, 1) := by decide +kernel
theorem d_C_demandStage_1 : decode b_C_demandStage 1 = .ok (.getfield 80, 3) := by decide +kernel
theorem d_C_demandStage_4 : decode b_C_demandStage 4 = .ok (.iload_n 1, 1) := by decide +kernel
theorem d_C_demandStage_5 : decode b_C_demandStage 5 = .ok (.if_icmp .eq 13, 3) := by decide +kernel
theorem d_C_demandStage_8 : decode b_C_demandStage 8 = .ok (.new 113, 3) := by decide +kernel
theorem d_C_demandStage_11 : decode b_C_demandStage 11 = .ok (.dup, 1) := by decide +kernel
theorem d_C_demandStage_12 : decode b_C_demandStage 12 = .ok (.ldc 127, 2) := by decide +kernel
theorem d_C_demandStage_14 : decode b_C_demandStage 14 = .ok (.invokespecial 117, 3) := by decide +kernel
theorem d_C_demandStage_17 : decode b_C_demandStage 17 = .ok (.athrow, 1) := by decide +kernel
theorem d_C_demandStage_18 : decode b_C_demandStage 18 = .ok (.return_, 1) := by decide +kernel
theorem d_C_demandParticipant_0 : decode b_C_demandParticipant 0 = .ok (.aload_n 0, 1) := by decide +kernel
theorem d_C_demandParticipant_1 : decode b_C_demandParticipant 1 = .ok (.iload_n 1, 1) := by decide +kernel
theorem d_C_demandParticipant_2 : decode b_C_demandParticipant 2 = .ok (.invokevirtual 193, 3) := by decide +kernel
theorem d_C_demandParticipant_5 : decode b_C_demandParticipant 5 = .ok (.ifCond .ne 13, 3) := by decide +kernel
theorem d_C_demandParticipant_8 : decode b_C_demandParticipant 8 = .ok (.new 51, 3) := by decide +kernel
theorem d_C_demandParticipant_11 : decode b_C_demandParticipant 11 = .ok (.dup, 1) := by decide +kernel
theorem d_C_demandParticipant_12 : decode b_C_demandParticipant 12 = .ok (.ldc 196, 2) := by decide +kernel
theorem d_C_demandParticipant_14 : decode b_C_demandParticipant 14 = .ok (.invokespecial 55, 3) := by decide +kernel
theorem d_C_demandParticipant_17 : decode b_C_demandParticipant 17 = .ok (.athrow, 1) := by decide +kernel
theorem d_C_demandParticipant_18 : decode b_C_demandParticipant 18 = .ok (.return_, 1) := by decide +kernel
theorem d_C_demandCoefficient_0 : decode b_C_demandCoefficient 0 = .ok (.aload_n 0, 1) := by decide +kernel
theorem d_C_demandCoefficient_1 : decode b_C_demandCoefficient 1 = .ok (.iload_n 1, 1) := by decide +kernel
theorem d_C_demandCoefficient_2 : decode b_C_demandCoefficient 2 = .ok (.invokevirtual 189, 3) := by decide +kernel
theorem d_C_demandCoefficient_5 : decode b_C_demandCoefficient 5 = .ok (.ifCond .ne 13, 3) := by decide +kernel
theorem d_C_demandCoefficient_8 : decode b_C_demandCoefficient 8 = .ok (.new 51, 3) := by decide +kernel
theorem d_C_demandCoefficient_11 : decode b_C_demandCoefficient 11 = .ok (.dup, 1) := by decide +kernel
theorem d_C_demandCoefficient_12 : decode b_C_demandCoefficient 12 = .ok (.ldc 198, 2) := by decide +kernel
theorem d_C_demandCoefficient_14 : decode b_C_demandCoefficient 14 = .ok (.invokespecial 55, 3) := by decide +kernel
theorem d_C_demandCoefficient_17 : decode b_C_demandCoefficient 17 = .ok (.athrow, 1) := by decide +kernel
theorem d_C_demandCoefficient_18 : decode b_C_demandCoefficient 18 = .ok (.return_, 1) := by decide +kernel
theorem d_C_isParticipant_0 : decode b_C_isParticipant 0 = .ok (.iload_n 1, 1) := by decide +kernel
theorem d_C_isParticipant_1 : decode b_C_isParticipant 1 = .ok (.iconst 1, 1) := by decide +kernel
theorem d_C_isParticipant_2 : decode b_C_isParticipant 2 = .ok (.if_icmp .lt 15, 3) := by decide +kernel
theorem d_C_isParticipant_5 : decode b_C_isParticipant 5 = .ok (.iload_n 1, 1) := by decide +kernel
theorem d_C_isParticipant_6 : decode b_C_isParticipant 6 = .ok (.aload_n 0, 1) := by decide +kernel
theorem d_C_isParticipant_7 : decode b_C_isParticipant 7 = .ok (.getfield 58, 3) := by decide +kernel
theorem d_C_isParticipant_10 : decode b_C_isParticipant 10 = .ok (.if_icmp .gt 7, 3) := by decide +kernel
theorem d_C_isParticipant_13 : decode b_C_isParticipant 13 = .ok (.iconst 1, 1) := by decide +kernel
theorem d_C_isParticipant_14 : decode b_C_isParticipant 14 = .ok (.goto 4, 3) := by decide +kernel
theorem d_C_isParticipant_17 : decode b_C_isParticipant 17 = .ok (.iconst 0, 1) := by decide +kernel
theorem d_C_isParticipant_18 : decode b_C_isParticipant 18 = .ok (.ireturn, 1) := by decide +kernel
theorem d_C_isCoefficient_0 : decode b_C_isCoefficient 0 = .ok (.iload_n 1, 1) := by decide +kernel
theorem d_C_isCoefficient_1 : decode b_C_isCoefficient 1 = .ok (.ifCond .lt 15, 3) := by decide +kernel
theorem d_C_isCoefficient_4 : decode b_C_isCoefficient 4 = .ok (.iload_n 1, 1) := by decide +kernel
theorem d_C_isCoefficient_5 : decode b_C_isCoefficient 5 = .ok (.aload_n 0, 1) := by decide +kernel
theorem d_C_isCoefficient_6 : decode b_C_isCoefficient 6 = .ok (.getfield 61, 3) := by decide +kernel
theorem d_C_isCoefficient_9 : decode b_C_isCoefficient 9 = .ok (.if_icmp .ge 7, 3) := by decide +kernel
theorem d_C_isCoefficient_12 : decode b_C_isCoefficient 12 = .ok (.iconst 1, 1) := by decide +kernel
theorem d_C_isCoefficient_13 : decode b_C_isCoefficient 13 = .ok (.goto 4, 3) := by decide +kernel
theorem d_C_isCoefficient_16 : decode b_C_isCoefficient 16 = .ok (.iconst 0, 1) := by decide +kernel
theorem d_C_isCoefficient_17 : decode b_C_isCoefficient 17 = .ok (.ireturn, 1) := by decide +kernel
theorem d_C_isDealt_0 : decode b_C_isDealt 0 = .ok (.aload_n 0, 1) := by decide +kernel
theorem d_C_isDealt_1 : decode b_C_isDealt 1 = .ok (.getfield 80, 3) := by decide +kernel
theorem d_C_isDealt_4 : decode b_C_isDealt 4 = .ok (.iconst 2, 1) := by decide +kernel
theorem d_C_isDealt_5 : decode b_C_isDealt 5 = .ok (.if_icmp .lt 7, 3) := by decide +kernel
theorem d_C_isDealt_8 : decode b_C_isDealt 8 = .ok (.iconst 1, 1) := by decide +kernel
theorem d_C_isDealt_9 : decode b_C_isDealt 9 = .ok (.goto 4, 3) := by decide +kernel
theorem d_C_isDealt_12 : decode b_C_isDealt 12 = .ok (.iconst 0, 1) := by decide +kernel
theorem d_C_isDealt_13 : decode b_C_isDealt 13 = .ok (.ireturn, 1) := by decide +kernel
theorem d_C_blindNumber_0 : decode b_C_blindNumber 0 = .ok (.aload_n 0, 1) := by decide +kernel
theorem d_C_blindNumber_1 : decode b_C_blindNumber 1 = .ok (.getfield 64, 3) := by decide +kernel
theorem d_C_blindNumber_4 : decode b_C_blindNumber 4 = .ok (.ifCond .eq 14, 3) := by decide +kernel
theorem d_C_blindNumber_7 : decode b_C_blindNumber 7 = .ok (.aload_n 0, 1) := by decide +kernel
theorem d_C_blindNumber_8 : decode b_C_blindNumber 8 = .ok (.getfield 13, 3) := by decide +kernel
theorem d_C_blindNumber_11 : decode b_C_blindNumber 11 = .ok (.iload_n 1, 1) := by decide +kernel
theorem d_C_blindNumber_12 : decode b_C_blindNumber 12 = .ok (.invokevirtual 89, 3) := by decide +kernel
theorem d_C_blindNumber_15 : decode b_C_blindNumber 15 = .ok (.goto 4, 3) := by decide +kernel
theorem d_C_blindNumber_18 : decode b_C_blindNumber 18 = .ok (.iconst 0, 1) := by decide +kernel
theorem d_C_blindNumber_19 : decode b_C_blindNumber 19 = .ok (.ireturn, 1) := by decide +kernel
theorem d_C_publishCommitments_0 : decode b_C_publishCommitments 0 = .ok (.iconst 0, 1) := by decide +kernel
theorem d_C_publishCommitments_1 : decode b_C_publishCommitments 1 = .ok (.istore_n 1, 1) := by decide +kernel
theorem d_C_publishCommitments_2 : decode b_C_publishCommitments 2 = .ok (.iload_n 1, 1) := by decide +kernel
theorem d_C_publishCommitments_3 : decode b_C_publishCommitments 3 = .ok (.aload_n 0, 1) := by decide +kernel
theorem d_C_publishCommitments_4 : decode b_C_publishCommitments 4 = .ok (.getfield 61, 3) := by decide +kernel
theorem d_C_publishCommitments_7 : decode b_C_publishCommitments 7 = .ok (.if_icmp .ge 34, 3) := by decide +kernel
theorem d_C_publishCommitments_10 : decode b_C_publishCommitments 10 = .ok (.aload_n 0, 1) := by decide +kernel
theorem d_C_publishCommitments_11 : decode b_C_publishCommitments 11 = .ok (.getfield 26, 3) := by decide +kernel
theorem d_C_publishCommitments_14 : decode b_C_publishCommitments 14 = .ok (.iload_n 1, 1) := by decide +kernel
theorem d_C_publishCommitments_15 : decode b_C_publishCommitments 15 = .ok (.aload_n 0, 1) := by decide +kernel
theorem d_C_publishCommitments_16 : decode b_C_publishCommitments 16 = .ok (.getfield 13, 3) := by decide +kernel
theorem d_C_publishCommitments_19 : decode b_C_publishCommitments 19 = .ok (.aload_n 0, 1) := by decide +kernel
theorem d_C_publishCommitments_20 : decode b_C_publishCommitments 20 = .ok (.getfield 19, 3) := by decide +kernel
theorem d_C_publishCommitments_23 : decode b_C_publishCommitments 23 = .ok (.iload_n 1, 1) := by decide +kernel
theorem d_C_publishCommitments_24 : decode b_C_publishCommitments 24 = .ok (.iaload, 1) := by decide +kernel
theorem d_C_publishCommitments_25 : decode b_C_publishCommitments 25 = .ok (.aload_n 0, 1) := by decide +kernel
theorem d_C_publishCommitments_26 : decode b_C_publishCommitments 26 = .ok (.getfield 23, 3) := by decide +kernel
theorem d_C_publishCommitments_29 : decode b_C_publishCommitments 29 = .ok (.iload_n 1, 1) := by decide +kernel
theorem d_C_publishCommitments_30 : decode b_C_publishCommitments 30 = .ok (.iaload, 1) := by decide +kernel
theorem d_C_publishCommitments_31 : decode b_C_publishCommitments 31 = .ok (.invokevirtual 200, 3) := by decide +kernel
theorem d_C_publishCommitments_34 : decode b_C_publishCommitments 34 = .ok (.iastore, 1) := by decide +kernel
theorem d_C_publishCommitments_35 : decode b_C_publishCommitments 35 = .ok (.iinc 1 1, 3) := by decide +kernel
theorem d_C_publishCommitments_38 : decode b_C_publishCommitments 38 = .ok (.goto (-36), 3) := by decide +kernel
theorem d_C_publishCommitments_41 : decode b_C_publishCommitments 41 = .ok (.return_, 1) := by decide +kernel
theorem d_C_sendShares_0 : decode b_C_sendShares 0 = .ok (.iconst 1, 1) := by decide +kernel
theorem d_C_sendShares_1 : decode b_C_sendShares 1 = .ok (.istore_n 1, 1) := by decide +kernel
theorem d_C_sendShares_2 : decode b_C_sendShares 2 = .ok (.iload_n 1, 1) := by decide +kernel
theorem d_C_sendShares_3 : decode b_C_sendShares 3 = .ok (.aload_n 0, 1) := by decide +kernel
theorem d_C_sendShares_4 : decode b_C_sendShares 4 = .ok (.getfield 58, 3) := by decide +kernel
theorem d_C_sendShares_7 : decode b_C_sendShares 7 = .ok (.if_icmp .gt 38, 3) := by decide +kernel
theorem d_C_sendShares_10 : decode b_C_sendShares 10 = .ok (.aload_n 0, 1) := by decide +kernel
theorem d_C_sendShares_11 : decode b_C_sendShares 11 = .ok (.getfield 31, 3) := by decide +kernel
theorem d_C_sendShares_14 : decode b_C_sendShares 14 = .ok (.iload_n 1, 1) := by decide +kernel
theorem d_C_sendShares_15 : decode b_C_sendShares 15 = .ok (.iconst 1, 1) := by decide +kernel
theorem d_C_sendShares_16 : decode b_C_sendShares 16 = .ok (.isub, 1) := by decide +kernel
theorem d_C_sendShares_17 : decode b_C_sendShares 17 = .ok (.aaload, 1) := by decide +kernel
theorem d_C_sendShares_18 : decode b_C_sendShares 18 = .ok (.aload_n 0, 1) := by decide +kernel
theorem d_C_sendShares_19 : decode b_C_sendShares 19 = .ok (.iload_n 1, 1) := by decide +kernel
theorem d_C_sendShares_20 : decode b_C_sendShares 20 = .ok (.aload_n 0, 1) := by decide +kernel
theorem d_C_sendShares_21 : decode b_C_sendShares 21 = .ok (.getfield 19, 3) := by decide +kernel
theorem d_C_sendShares_24 : decode b_C_sendShares 24 = .ok (.invokevirtual 203, 3) := by decide +kernel
theorem d_C_sendShares_27 : decode b_C_sendShares 27 = .ok (.aload_n 0, 1) := by decide +kernel
theorem d_C_sendShares_28 : decode b_C_sendShares 28 = .ok (.iload_n 1, 1) := by decide +kernel
theorem d_C_sendShares_29 : decode b_C_sendShares 29 = .ok (.aload_n 0, 1) := by decide +kernel
theorem d_C_sendShares_30 : decode b_C_sendShares 30 = .ok (.getfield 23, 3) := by decide +kernel
theorem d_C_sendShares_33 : decode b_C_sendShares 33 = .ok (.invokevirtual 203, 3) := by decide +kernel
theorem d_C_sendShares_36 : decode b_C_sendShares 36 = .ok (.invokevirtual 121, 3) := by decide +kernel
theorem d_C_sendShares_39 : decode b_C_sendShares 39 = .ok (.iinc 1 1, 3) := by decide +kernel
theorem d_C_sendShares_42 : decode b_C_sendShares 42 = .ok (.goto (-40), 3) := by decide +kernel
theorem d_C_sendShares_45 : decode b_C_sendShares 45 = .ok (.return_, 1) := by decide +kernel
theorem d_C_valueAt_0 : decode b_C_valueAt 0 = .ok (.iconst 0, 1) := by decide +kernel
theorem d_C_valueAt_1 : decode b_C_valueAt 1 = .ok (.istore_n 3, 1) := by decide +kernel
theorem d_C_valueAt_2 : decode b_C_valueAt 2 = .ok (.aload_n 0, 1) := by decide +kernel
theorem d_C_valueAt_3 : decode b_C_valueAt 3 = .ok (.getfield 61, 3) := by decide +kernel
theorem d_C_valueAt_6 : decode b_C_valueAt 6 = .ok (.iconst 1, 1) := by decide +kernel
theorem d_C_valueAt_7 : decode b_C_valueAt 7 = .ok (.isub, 1) := by decide +kernel
theorem d_C_valueAt_8 : decode b_C_valueAt 8 = .ok (.istore 4, 2) := by decide +kernel
theorem d_C_valueAt_10 : decode b_C_valueAt 10 = .ok (.iload 4, 2) := by decide +kernel
theorem d_C_valueAt_12 : decode b_C_valueAt 12 = .ok (.ifCond .lt 30, 3) := by decide +kernel
theorem d_C_valueAt_15 : decode b_C_valueAt 15 = .ok (.aload_n 0, 1) := by decide +kernel
theorem d_C_valueAt_16 : decode b_C_valueAt 16 = .ok (.getfield 13, 3) := by decide +kernel
theorem d_C_valueAt_19 : decode b_C_valueAt 19 = .ok (.aload_n 0, 1) := by decide +kernel
theorem d_C_valueAt_20 : decode b_C_valueAt 20 = .ok (.getfield 13, 3) := by decide +kernel
theorem d_C_valueAt_23 : decode b_C_valueAt 23 = .ok (.iload_n 3, 1) := by decide +kernel
theorem d_C_valueAt_24 : decode b_C_valueAt 24 = .ok (.iload_n 1, 1) := by decide +kernel
theorem d_C_valueAt_25 : decode b_C_valueAt 25 = .ok (.invokevirtual 175, 3) := by decide +kernel
theorem d_C_valueAt_28 : decode b_C_valueAt 28 = .ok (.aload_n 2, 1) := by decide +kernel
theorem d_C_valueAt_29 : decode b_C_valueAt 29 = .ok (.iload 4, 2) := by decide +kernel
theorem d_C_valueAt_31 : decode b_C_valueAt 31 = .ok (.iaload, 1) := by decide +kernel
theorem d_C_valueAt_32 : decode b_C_valueAt 32 = .ok (.invokevirtual 178, 3) := by decide +kernel
theorem d_C_valueAt_35 : decode b_C_valueAt 35 = .ok (.istore_n 3, 1) := by decide +kernel
theorem d_C_valueAt_36 : decode b_C_valueAt 36 = .ok (.iinc 4 (-1), 3) := by decide +kernel
theorem d_C_valueAt_39 : decode b_C_valueAt 39 = .ok (.goto (-29), 3) := by decide +kernel
theorem d_C_valueAt_42 : decode b_C_valueAt 42 = .ok (.iload_n 3, 1) := by decide +kernel
theorem d_C_valueAt_43 : decode b_C_valueAt 43 = .ok (.ireturn, 1) := by decide +kernel
theorem d_C_raiseComplaints_0 : decode b_C_raiseComplaints 0 = .ok (.iconst 0, 1) := by decide +kernel
theorem d_C_raiseComplaints_1 : decode b_C_raiseComplaints 1 = .ok (.istore_n 1, 1) := by decide +kernel
theorem d_C_raiseComplaints_2 : decode b_C_raiseComplaints 2 = .ok (.iload_n 1, 1) := by decide +kernel
theorem d_C_raiseComplaints_3 : decode b_C_raiseComplaints 3 = .ok (.aload_n 0, 1) := by decide +kernel
theorem d_C_raiseComplaints_4 : decode b_C_raiseComplaints 4 = .ok (.getfield 58, 3) := by decide +kernel
theorem d_C_raiseComplaints_7 : decode b_C_raiseComplaints 7 = .ok (.if_icmp .ge 40, 3) := by decide +kernel
theorem d_C_raiseComplaints_10 : decode b_C_raiseComplaints 10 = .ok (.aload_n 0, 1) := by decide +kernel
theorem d_C_raiseComplaints_11 : decode b_C_raiseComplaints 11 = .ok (.getfield 31, 3) := by decide +kernel
theorem d_C_raiseComplaints_14 : decode b_C_raiseComplaints 14 = .ok (.iload_n 1, 1) := by decide +kernel
theorem d_C_raiseComplaints_15 : decode b_C_raiseComplaints 15 = .ok (.aaload, 1) := by decide +kernel
theorem d_C_raiseComplaints_16 : decode b_C_raiseComplaints 16 = .ok (.astore_n 2, 1) := by decide +kernel
theorem d_C_raiseComplaints_17 : decode b_C_raiseComplaints 17 = .ok (.aload_n 2, 1) := by decide +kernel
theorem d_C_raiseComplaints_18 : decode b_C_raiseComplaints 18 = .ok (.aload_n 2, 1) := by decide +kernel
theorem d_C_raiseComplaints_19 : decode b_C_raiseComplaints 19 = .ok (.getfield 129, 3) := by decide +kernel
theorem d_C_raiseComplaints_22 : decode b_C_raiseComplaints 22 = .ok (.ifCond .ne 15, 3) := by decide +kernel
theorem d_C_raiseComplaints_25 : decode b_C_raiseComplaints 25 = .ok (.aload_n 0, 1) := by decide +kernel
theorem d_C_raiseComplaints_26 : decode b_C_raiseComplaints 26 = .ok (.aload_n 2, 1) := by decide +kernel
theorem d_C_raiseComplaints_27 : decode b_C_raiseComplaints 27 = .ok (.invokevirtual 140, 3) := by decide +kernel
theorem d_C_raiseComplaints_30 : decode b_C_raiseComplaints 30 = .ok (.ifCond .ne 7, 3) := by decide +kernel
theorem d_C_raiseComplaints_33 : decode b_C_raiseComplaints 33 = .ok (.iconst 1, 1) := by decide +kernel
theorem d_C_raiseComplaints_34 : decode b_C_raiseComplaints 34 = .ok (.goto 4, 3) := by decide +kernel
theorem d_C_raiseComplaints_37 : decode b_C_raiseComplaints 37 = .ok (.iconst 0, 1) := by decide +kernel
theorem d_C_raiseComplaints_38 : decode b_C_raiseComplaints 38 = .ok (.putfield 132, 3) := by decide +kernel
theorem d_C_raiseComplaints_41 : decode b_C_raiseComplaints 41 = .ok (.iinc 1 1, 3) := by decide +kernel
theorem d_C_raiseComplaints_44 : decode b_C_raiseComplaints 44 = .ok (.goto (-42), 3) := by decide +kernel
theorem d_C_raiseComplaints_47 : decode b_C_raiseComplaints 47 = .ok (.return_, 1) := by decide +kernel
theorem d_C_isEveryComplaintAnswered_0 : decode b_C_isEveryComplaintAnswered 0 = .ok (.iconst 0, 1) := by decide +kernel
theorem d_C_isEveryComplaintAnswered_1 : decode b_C_isEveryComplaintAnswered 1 = .ok (.istore_n 1, 1) := by decide +kernel
theorem d_C_isEveryComplaintAnswered_2 : decode b_C_isEveryComplaintAnswered 2 = .ok (.iload_n 1, 1) := by decide +kernel
theorem d_C_isEveryComplaintAnswered_3 : decode b_C_isEveryComplaintAnswered 3 = .ok (.aload_n 0, 1) := by decide +kernel
theorem d_C_isEveryComplaintAnswered_4 : decode b_C_isEveryComplaintAnswered 4 = .ok (.getfield 58, 3) := by decide +kernel
theorem d_C_isEveryComplaintAnswered_7 : decode b_C_isEveryComplaintAnswered 7 = .ok (.if_icmp .ge 35, 3) := by decide +kernel
theorem d_C_isEveryComplaintAnswered_10 : decode b_C_isEveryComplaintAnswered 10 = .ok (.aload_n 0, 1) := by decide +kernel
theorem d_C_isEveryComplaintAnswered_11 : decode b_C_isEveryComplaintAnswered 11 = .ok (.getfield 31, 3) := by decide +kernel
theorem d_C_isEveryComplaintAnswered_14 : decode b_C_isEveryComplaintAnswered 14 = .ok (.iload_n 1, 1) := by decide +kernel
theorem d_C_isEveryComplaintAnswered_15 : decode b_C_isEveryComplaintAnswered 15 = .ok (.aaload, 1) := by decide +kernel
theorem d_C_isEveryComplaintAnswered_16 : decode b_C_isEveryComplaintAnswered 16 = .ok (.getfield 132, 3) := by decide +kernel
theorem d_C_isEveryComplaintAnswered_19 : decode b_C_isEveryComplaintAnswered 19 = .ok (.ifCond .eq 17, 3) := by decide +kernel
theorem d_C_isEveryComplaintAnswered_22 : decode b_C_isEveryComplaintAnswered 22 = .ok (.aload_n 0, 1) := by decide +kernel
theorem d_C_isEveryComplaintAnswered_23 : decode b_C_isEveryComplaintAnswered 23 = .ok (.getfield 31, 3) := by decide +kernel
theorem d_C_isEveryComplaintAnswered_26 : decode b_C_isEveryComplaintAnswered 26 = .ok (.iload_n 1, 1) := by decide +kernel
theorem d_C_isEveryComplaintAnswered_27 : decode b_C_isEveryComplaintAnswered 27 = .ok (.aaload, 1) := by decide +kernel
theorem d_C_isEveryComplaintAnswered_28 : decode b_C_isEveryComplaintAnswered 28 = .ok (.getfield 144, 3) := by decide +kernel
theorem d_C_isEveryComplaintAnswered_31 : decode b_C_isEveryComplaintAnswered 31 = .ok (.ifCond .ne 5, 3) := by decide +kernel
theorem d_C_isEveryComplaintAnswered_34 : decode b_C_isEveryComplaintAnswered 34 = .ok (.iconst 0, 1) := by decide +kernel
theorem d_C_isEveryComplaintAnswered_35 : decode b_C_isEveryComplaintAnswered 35 = .ok (.ireturn, 1) := by decide +kernel
theorem d_C_isEveryComplaintAnswered_36 : decode b_C_isEveryComplaintAnswered 36 = .ok (.iinc 1 1, 3) := by decide +kernel
theorem d_C_isEveryComplaintAnswered_39 : decode b_C_isEveryComplaintAnswered 39 = .ok (.goto (-37), 3) := by decide +kernel
theorem d_C_isEveryComplaintAnswered_42 : decode b_C_isEveryComplaintAnswered 42 = .ok (.iconst 1, 1) := by decide +kernel
theorem d_C_isEveryComplaintAnswered_43 : decode b_C_isEveryComplaintAnswered 43 = .ok (.ireturn, 1) := by decide +kernel
theorem d_C_isShareRight_0 : decode b_C_isShareRight 0 = .ok (.aload_n 0, 1) := by decide +kernel
theorem d_C_isShareRight_1 : decode b_C_isShareRight 1 = .ok (.aload_n 1, 1) := by decide +kernel
theorem d_C_isShareRight_2 : decode b_C_isShareRight 2 = .ok (.aload_n 1, 1) := by decide +kernel
theorem d_C_isShareRight_3 : decode b_C_isShareRight 3 = .ok (.getfield 147, 3) := by decide +kernel
theorem d_C_isShareRight_6 : decode b_C_isShareRight 6 = .ok (.aload_n 1, 1) := by decide +kernel
theorem d_C_isShareRight_7 : decode b_C_isShareRight 7 = .ok (.getfield 150, 3) := by decide +kernel
theorem d_C_isShareRight_10 : decode b_C_isShareRight 10 = .ok (.invokevirtual 207, 3) := by decide +kernel
theorem d_C_isShareRight_13 : decode b_C_isShareRight 13 = .ok (.ireturn, 1) := by decide +kernel
theorem d_C_isPairRight_0 : decode b_C_isPairRight 0 = .ok (.aload_n 0, 1) := by decide +kernel
theorem d_C_isPairRight_1 : decode b_C_isPairRight 1 = .ok (.getfield 13, 3) := by decide +kernel
theorem d_C_isPairRight_4 : decode b_C_isPairRight 4 = .ok (.iload_n 2, 1) := by decide +kernel
theorem d_C_isPairRight_5 : decode b_C_isPairRight 5 = .ok (.iload_n 3, 1) := by decide +kernel
theorem d_C_isPairRight_6 : decode b_C_isPairRight 6 = .ok (.invokevirtual 200, 3) := by decide +kernel
theorem d_C_isPairRight_9 : decode b_C_isPairRight 9 = .ok (.aload_n 0, 1) := by decide +kernel
theorem d_C_isPairRight_10 : decode b_C_isPairRight 10 = .ok (.aload_n 1, 1) := by decide +kernel
theorem d_C_isPairRight_11 : decode b_C_isPairRight 11 = .ok (.getfield 210, 3) := by decide +kernel
theorem d_C_isPairRight_14 : decode b_C_isPairRight 14 = .ok (.invokevirtual 212, 3) := by decide +kernel
theorem d_C_isPairRight_17 : decode b_C_isPairRight 17 = .ok (.if_icmp .ne 7, 3) := by decide +kernel
theorem d_C_isPairRight_20 : decode b_C_isPairRight 20 = .ok (.iconst 1, 1) := by decide +kernel
theorem d_C_isPairRight_21 : decode b_C_isPairRight 21 = .ok (.goto 4, 3) := by decide +kernel
theorem d_C_isPairRight_24 : decode b_C_isPairRight 24 = .ok (.iconst 0, 1) := by decide +kernel
theorem d_C_isPairRight_25 : decode b_C_isPairRight 25 = .ok (.ireturn, 1) := by decide +kernel
theorem d_C_publishedAt_0 : decode b_C_publishedAt 0 = .ok (.iconst 1, 1) := by decide +kernel
theorem d_C_publishedAt_1 : decode b_C_publishedAt 1 = .ok (.istore_n 2, 1) := by decide +kernel
theorem d_C_publishedAt_2 : decode b_C_publishedAt 2 = .ok (.aload_n 0, 1) := by decide +kernel
theorem d_C_publishedAt_3 : decode b_C_publishedAt 3 = .ok (.getfield 61, 3) := by decide +kernel
theorem d_C_publishedAt_6 : decode b_C_publishedAt 6 = .ok (.iconst 1, 1) := by decide +kernel
theorem d_C_publishedAt_7 : decode b_C_publishedAt 7 = .ok (.isub, 1) := by decide +kernel
theorem d_C_publishedAt_8 : decode b_C_publishedAt 8 = .ok (.istore_n 3, 1) := by decide +kernel
theorem d_C_publishedAt_9 : decode b_C_publishedAt 9 = .ok (.iload_n 3, 1) := by decide +kernel
theorem d_C_publishedAt_10 : decode b_C_publishedAt 10 = .ok (.ifCond .lt 32, 3) := by decide +kernel
theorem d_C_publishedAt_13 : decode b_C_publishedAt 13 = .ok (.aload_n 0, 1) := by decide +kernel
theorem d_C_publishedAt_14 : decode b_C_publishedAt 14 = .ok (.getfield 13, 3) := by decide +kernel
theorem d_C_publishedAt_17 : decode b_C_publishedAt 17 = .ok (.aload_n 0, 1) := by decide +kernel
theorem d_C_publishedAt_18 : decode b_C_publishedAt 18 = .ok (.getfield 13, 3) := by decide +kernel
theorem d_C_publishedAt_21 : decode b_C_publishedAt 21 = .ok (.iload_n 2, 1) := by decide +kernel
theorem d_C_publishedAt_22 : decode b_C_publishedAt 22 = .ok (.iload_n 1, 1) := by decide +kernel
theorem d_C_publishedAt_23 : decode b_C_publishedAt 23 = .ok (.invokevirtual 215, 3) := by decide +kernel
theorem d_C_publishedAt_26 : decode b_C_publishedAt 26 = .ok (.aload_n 0, 1) := by decide +kernel
theorem d_C_publishedAt_27 : decode b_C_publishedAt 27 = .ok (.getfield 26, 3) := by decide +kernel
theorem d_C_publishedAt_30 : decode b_C_publishedAt 30 = .ok (.iload_n 3, 1) := by decide +kernel
theorem d_C_publishedAt_31 : decode b_C_publishedAt 31 = .ok (.iaload, 1) := by decide +kernel
theorem d_C_publishedAt_32 : decode b_C_publishedAt 32 = .ok (.invokevirtual 218, 3) := by decide +kernel
theorem d_C_publishedAt_35 : decode b_C_publishedAt 35 = .ok (.istore_n 2, 1) := by decide +kernel
theorem d_C_publishedAt_36 : decode b_C_publishedAt 36 = .ok (.iinc 3 (-1), 3) := by decide +kernel
theorem d_C_publishedAt_39 : decode b_C_publishedAt 39 = .ok (.goto (-30), 3) := by decide +kernel
theorem d_C_publishedAt_42 : decode b_C_publishedAt 42 = .ok (.iload_n 2, 1) := by decide +kernel
theorem d_C_publishedAt_43 : decode b_C_publishedAt 43 = .ok (.ireturn, 1) := by decide +kernel
theorem d_C_layOpen_0 : decode b_C_layOpen 0 = .ok (.aload_n 0, 1) := by decide +kernel
theorem d_C_layOpen_1 : decode b_C_layOpen 1 = .ok (.aload_n 1, 1) := by decide +kernel
theorem d_C_layOpen_2 : decode b_C_layOpen 2 = .ok (.iload_n 2, 1) := by decide +kernel
theorem d_C_layOpen_3 : decode b_C_layOpen 3 = .ok (.iload_n 3, 1) := by decide +kernel
theorem d_C_layOpen_4 : decode b_C_layOpen 4 = .ok (.invokevirtual 207, 3) := by decide +kernel
theorem d_C_layOpen_7 : decode b_C_layOpen 7 = .ok (.ifCond .ne 5, 3) := by decide +kernel
theorem d_C_layOpen_10 : decode b_C_layOpen 10 = .ok (.iconst 0, 1) := by decide +kernel
theorem d_C_layOpen_11 : decode b_C_layOpen 11 = .ok (.ireturn, 1) := by decide +kernel
theorem d_C_layOpen_12 : decode b_C_layOpen 12 = .ok (.aload_n 1, 1) := by decide +kernel
theorem d_C_layOpen_13 : decode b_C_layOpen 13 = .ok (.getfield 165, 3) := by decide +kernel
theorem d_C_layOpen_16 : decode b_C_layOpen 16 = .ok (.ifCond .ne 12, 3) := by decide +kernel
theorem d_C_layOpen_19 : decode b_C_layOpen 19 = .ok (.aload_n 1, 1) := by decide +kernel
theorem d_C_layOpen_20 : decode b_C_layOpen 20 = .ok (.iload_n 2, 1) := by decide +kernel
theorem d_C_layOpen_21 : decode b_C_layOpen 21 = .ok (.iload_n 3, 1) := by decide +kernel
theorem d_C_layOpen_22 : decode b_C_layOpen 22 = .ok (.invokevirtual 221, 3) := by decide +kernel
theorem d_C_layOpen_25 : decode b_C_layOpen 25 = .ok (.goto 58, 3) := by decide +kernel
theorem d_C_layOpen_28 : decode b_C_layOpen 28 = .ok (.aload_n 0, 1) := by decide +kernel
theorem d_C_layOpen_29 : decode b_C_layOpen 29 = .ok (.getfield 77, 3) := by decide +kernel
theorem d_C_layOpen_32 : decode b_C_layOpen 32 = .ok (.ifCond .ne 51, 3) := by decide +kernel
theorem d_C_layOpen_35 : decode b_C_layOpen 35 = .ok (.iload_n 3, 1) := by decide +kernel
theorem d_C_layOpen_36 : decode b_C_layOpen 36 = .ok (.aload_n 1, 1) := by decide +kernel
theorem d_C_layOpen_37 : decode b_C_layOpen 37 = .ok (.getfield 224, 3) := by decide +kernel
theorem d_C_layOpen_40 : decode b_C_layOpen 40 = .ok (.if_icmp .eq 43, 3) := by decide +kernel
theorem d_C_layOpen_43 : decode b_C_layOpen 43 = .ok (.aload_n 0, 1) := by decide +kernel
theorem d_C_layOpen_44 : decode b_C_layOpen 44 = .ok (.iconst 1, 1) := by decide +kernel
theorem d_C_layOpen_45 : decode b_C_layOpen 45 = .ok (.putfield 77, 3) := by decide +kernel
theorem d_C_layOpen_48 : decode b_C_layOpen 48 = .ok (.aload_n 0, 1) := by decide +kernel
theorem d_C_layOpen_49 : decode b_C_layOpen 49 = .ok (.aload_n 0, 1) := by decide +kernel
theorem d_C_layOpen_50 : decode b_C_layOpen 50 = .ok (.getfield 13, 3) := by decide +kernel
theorem d_C_layOpen_53 : decode b_C_layOpen 53 = .ok (.aload_n 0, 1) := by decide +kernel
theorem d_C_layOpen_54 : decode b_C_layOpen 54 = .ok (.getfield 13, 3) := by decide +kernel
theorem d_C_layOpen_57 : decode b_C_layOpen 57 = .ok (.aload_n 1, 1) := by decide +kernel
theorem d_C_layOpen_58 : decode b_C_layOpen 58 = .ok (.getfield 168, 3) := by decide +kernel
theorem d_C_layOpen_61 : decode b_C_layOpen 61 = .ok (.iload_n 2, 1) := by decide +kernel
theorem d_C_layOpen_62 : decode b_C_layOpen 62 = .ok (.invokevirtual 227, 3) := by decide +kernel
theorem d_C_layOpen_65 : decode b_C_layOpen 65 = .ok (.aload_n 0, 1) := by decide +kernel
theorem d_C_layOpen_66 : decode b_C_layOpen 66 = .ok (.getfield 13, 3) := by decide +kernel
theorem d_C_layOpen_69 : decode b_C_layOpen 69 = .ok (.iload_n 3, 1) := by decide +kernel
theorem d_C_layOpen_70 : decode b_C_layOpen 70 = .ok (.aload_n 1, 1) := by decide +kernel
theorem d_C_layOpen_71 : decode b_C_layOpen 71 = .ok (.getfield 224, 3) := by decide +kernel
theorem d_C_layOpen_74 : decode b_C_layOpen 74 = .ok (.invokevirtual 227, 3) := by decide +kernel
theorem d_C_layOpen_77 : decode b_C_layOpen 77 = .ok (.invokevirtual 230, 3) := by decide +kernel
theorem d_C_layOpen_80 : decode b_C_layOpen 80 = .ok (.putfield 183, 3) := by decide +kernel
theorem d_C_layOpen_83 : decode b_C_layOpen 83 = .ok (.iconst 1, 1) := by decide +kernel
theorem d_C_layOpen_84 : decode b_C_layOpen 84 = .ok (.ireturn, 1) := by decide +kernel
theorem d_C_lastOfTheChosen_0 : decode b_C_lastOfTheChosen 0 = .ok (.aload_n 0, 1) := by decide +kernel
theorem d_C_lastOfTheChosen_1 : decode b_C_lastOfTheChosen 1 = .ok (.getfield 61, 3) := by decide +kernel
theorem d_C_lastOfTheChosen_4 : decode b_C_lastOfTheChosen 4 = .ok (.istore_n 1, 1) := by decide +kernel
theorem d_C_lastOfTheChosen_5 : decode b_C_lastOfTheChosen 5 = .ok (.iconst 0, 1) := by decide +kernel
theorem d_C_lastOfTheChosen_6 : decode b_C_lastOfTheChosen 6 = .ok (.istore_n 2, 1) := by decide +kernel
theorem d_C_lastOfTheChosen_7 : decode b_C_lastOfTheChosen 7 = .ok (.iload_n 2, 1) := by decide +kernel
theorem d_C_lastOfTheChosen_8 : decode b_C_lastOfTheChosen 8 = .ok (.aload_n 0, 1) := by decide +kernel
theorem d_C_lastOfTheChosen_9 : decode b_C_lastOfTheChosen 9 = .ok (.getfield 58, 3) := by decide +kernel
theorem d_C_lastOfTheChosen_12 : decode b_C_lastOfTheChosen 12 = .ok (.if_icmp .ge 28, 3) := by decide +kernel
theorem d_C_lastOfTheChosen_15 : decode b_C_lastOfTheChosen 15 = .ok (.iload_n 1, 1) := by decide +kernel
theorem d_C_lastOfTheChosen_16 : decode b_C_lastOfTheChosen 16 = .ok (.ifCond .le 24, 3) := by decide +kernel
theorem d_C_lastOfTheChosen_19 : decode b_C_lastOfTheChosen 19 = .ok (.aload_n 0, 1) := by decide +kernel
theorem d_C_lastOfTheChosen_20 : decode b_C_lastOfTheChosen 20 = .ok (.getfield 31, 3) := by decide +kernel
theorem d_C_lastOfTheChosen_23 : decode b_C_lastOfTheChosen 23 = .ok (.iload_n 2, 1) := by decide +kernel
theorem d_C_lastOfTheChosen_24 : decode b_C_lastOfTheChosen 24 = .ok (.aaload, 1) := by decide +kernel
theorem d_C_lastOfTheChosen_25 : decode b_C_lastOfTheChosen 25 = .ok (.getfield 165, 3) := by decide +kernel
theorem d_C_lastOfTheChosen_28 : decode b_C_lastOfTheChosen 28 = .ok (.ifCond .eq 6, 3) := by decide +kernel
theorem d_C_lastOfTheChosen_31 : decode b_C_lastOfTheChosen 31 = .ok (.iinc 1 (-1), 3) := by decide +kernel
theorem d_C_lastOfTheChosen_34 : decode b_C_lastOfTheChosen 34 = .ok (.iinc 2 1, 3) := by decide +kernel
theorem d_C_lastOfTheChosen_37 : decode b_C_lastOfTheChosen 37 = .ok (.goto (-30), 3) := by decide +kernel
theorem d_C_lastOfTheChosen_40 : decode b_C_lastOfTheChosen 40 = .ok (.iload_n 2, 1) := by decide +kernel
theorem d_C_lastOfTheChosen_41 : decode b_C_lastOfTheChosen 41 = .ok (.ireturn, 1) := by decide +kernel
theorem d_C_weightAtZero_0 : decode b_C_weightAtZero 0 = .ok (.iconst 1, 1) := by decide +kernel
theorem d_C_weightAtZero_1 : decode b_C_weightAtZero 1 = .ok (.istore_n 3, 1) := by decide +kernel
theorem d_C_weightAtZero_2 : decode b_C_weightAtZero 2 = .ok (.iconst 1, 1) := by decide +kernel
theorem d_C_weightAtZero_3 : decode b_C_weightAtZero 3 = .ok (.istore 4, 2) := by decide +kernel
theorem d_C_weightAtZero_5 : decode b_C_weightAtZero 5 = .ok (.iconst 1, 1) := by decide +kernel
theorem d_C_weightAtZero_6 : decode b_C_weightAtZero 6 = .ok (.istore 5, 2) := by decide +kernel
theorem d_C_weightAtZero_8 : decode b_C_weightAtZero 8 = .ok (.iload 5, 2) := by decide +kernel
theorem d_C_weightAtZero_10 : decode b_C_weightAtZero 10 = .ok (.iload_n 2, 1) := by decide +kernel
theorem d_C_weightAtZero_11 : decode b_C_weightAtZero 11 = .ok (.if_icmp .gt 62, 3) := by decide +kernel
theorem d_C_weightAtZero_14 : decode b_C_weightAtZero 14 = .ok (.iload 5, 2) := by decide +kernel
theorem d_C_weightAtZero_16 : decode b_C_weightAtZero 16 = .ok (.iload_n 1, 1) := by decide +kernel
theorem d_C_weightAtZero_17 : decode b_C_weightAtZero 17 = .ok (.if_icmp .eq 50, 3) := by decide +kernel
theorem d_C_weightAtZero_20 : decode b_C_weightAtZero 20 = .ok (.aload_n 0, 1) := by decide +kernel
theorem d_C_weightAtZero_21 : decode b_C_weightAtZero 21 = .ok (.getfield 31, 3) := by decide +kernel
theorem d_C_weightAtZero_24 : decode b_C_weightAtZero 24 = .ok (.iload 5, 2) := by decide +kernel
theorem d_C_weightAtZero_26 : decode b_C_weightAtZero 26 = .ok (.iconst 1, 1) := by decide +kernel
theorem d_C_weightAtZero_27 : decode b_C_weightAtZero 27 = .ok (.isub, 1) := by decide +kernel
theorem d_C_weightAtZero_28 : decode b_C_weightAtZero 28 = .ok (.aaload, 1) := by decide +kernel
theorem d_C_weightAtZero_29 : decode b_C_weightAtZero 29 = .ok (.getfield 165, 3) := by decide +kernel
theorem d_C_weightAtZero_32 : decode b_C_weightAtZero 32 = .ok (.ifCond .eq 35, 3) := by decide +kernel
theorem d_C_weightAtZero_35 : decode b_C_weightAtZero 35 = .ok (.aload_n 0, 1) := by decide +kernel
theorem d_C_weightAtZero_36 : decode b_C_weightAtZero 36 = .ok (.getfield 13, 3) := by decide +kernel
theorem d_C_weightAtZero_39 : decode b_C_weightAtZero 39 = .ok (.iload_n 3, 1) := by decide +kernel
theorem d_C_weightAtZero_40 : decode b_C_weightAtZero 40 = .ok (.iload 5, 2) := by decide +kernel
theorem d_C_weightAtZero_42 : decode b_C_weightAtZero 42 = .ok (.invokevirtual 175, 3) := by decide +kernel
theorem d_C_weightAtZero_45 : decode b_C_weightAtZero 45 = .ok (.istore_n 3, 1) := by decide +kernel
theorem d_C_weightAtZero_46 : decode b_C_weightAtZero 46 = .ok (.aload_n 0, 1) := by decide +kernel
theorem d_C_weightAtZero_47 : decode b_C_weightAtZero 47 = .ok (.getfield 13, 3) := by decide +kernel
theorem d_C_weightAtZero_50 : decode b_C_weightAtZero 50 = .ok (.iload 4, 2) := by decide +kernel
theorem d_C_weightAtZero_52 : decode b_C_weightAtZero 52 = .ok (.aload_n 0, 1) := by decide +kernel
theorem d_C_weightAtZero_53 : decode b_C_weightAtZero 53 = .ok (.getfield 13, 3) := by decide +kernel
theorem d_C_weightAtZero_56 : decode b_C_weightAtZero 56 = .ok (.iload 5, 2) := by decide +kernel
theorem d_C_weightAtZero_58 : decode b_C_weightAtZero 58 = .ok (.iload_n 1, 1) := by decide +kernel
theorem d_C_weightAtZero_59 : decode b_C_weightAtZero 59 = .ok (.invokevirtual 227, 3) := by decide +kernel
theorem d_C_weightAtZero_62 : decode b_C_weightAtZero 62 = .ok (.invokevirtual 175, 3) := by decide +kernel
theorem d_C_weightAtZero_65 : decode b_C_weightAtZero 65 = .ok (.istore 4, 2) := by decide +kernel
theorem d_C_weightAtZero_67 : decode b_C_weightAtZero 67 = .ok (.iinc 5 1, 3) := by decide +kernel
theorem d_C_weightAtZero_70 : decode b_C_weightAtZero 70 = .ok (.goto (-62), 3) := by decide +kernel
theorem d_C_weightAtZero_73 : decode b_C_weightAtZero 73 = .ok (.aload_n 0, 1) := by decide +kernel
theorem d_C_weightAtZero_74 : decode b_C_weightAtZero 74 = .ok (.getfield 13, 3) := by decide +kernel
theorem d_C_weightAtZero_77 : decode b_C_weightAtZero 77 = .ok (.iload_n 3, 1) := by decide +kernel
theorem d_C_weightAtZero_78 : decode b_C_weightAtZero 78 = .ok (.iload 4, 2) := by decide +kernel
theorem d_C_weightAtZero_80 : decode b_C_weightAtZero 80 = .ok (.invokevirtual 230, 3) := by decide +kernel
theorem d_C_weightAtZero_83 : decode b_C_weightAtZero 83 = .ok (.ireturn, 1) := by decide +kernel
end
section
theorem d_M_init_0 : decode b_M_init 0 = .ok (.aload_n 0, 1) := by decide +kernel
theorem d_M_init_1 : decode b_M_init 1 = .ok (.invokespecial 1, 3) := by decide +kernel
theorem d_M_init_4 : decode b_M_init 4 = .ok (.aload_n 0, 1) := by decide +kernel
theorem d_M_init_5 : decode b_M_init 5 = .ok (.bipush 7, 2) := by decide +kernel
theorem d_M_init_7 : decode b_M_init 7 = .ok (.newarray .int, 2) := by decide +kernel
theorem d_M_init_9 : decode b_M_init 9 = .ok (.putfield 7, 3) := by decide +kernel
theorem d_M_init_12 : decode b_M_init 12 = .ok (.aload_n 0, 1) := by decide +kernel
theorem d_M_init_13 : decode b_M_init 13 = .ok (.bipush 7, 2) := by decide +kernel
theorem d_M_init_15 : decode b_M_init 15 = .ok (.newarray .int, 2) := by decide +kernel
theorem d_M_init_17 : decode b_M_init 17 = .ok (.putfield 13, 3) := by decide +kernel
theorem d_M_init_20 : decode b_M_init 20 = .ok (.aload_n 0, 1) := by decide +kernel
theorem d_M_init_21 : decode b_M_init 21 = .ok (.bipush 7, 2) := by decide +kernel
theorem d_M_init_23 : decode b_M_init 23 = .ok (.newarray .int, 2) := by decide +kernel
theorem d_M_init_25 : decode b_M_init 25 = .ok (.putfield 16, 3) := by decide +kernel
theorem d_M_init_28 : decode b_M_init 28 = .ok (.aload_n 0, 1) := by decide +kernel
theorem d_M_init_29 : decode b_M_init 29 = .ok (.bipush 8, 2) := by decide +kernel
theorem d_M_init_31 : decode b_M_init 31 = .ok (.newarray .boolean, 2) := by decide +kernel
theorem d_M_init_33 : decode b_M_init 33 = .ok (.putfield 19, 3) := by decide +kernel
theorem d_M_init_36 : decode b_M_init 36 = .ok (.aload_n 0, 1) := by decide +kernel
theorem d_M_init_37 : decode b_M_init 37 = .ok (.bipush 8, 2) := by decide +kernel
theorem d_M_init_39 : decode b_M_init 39 = .ok (.newarray .boolean, 2) := by decide +kernel
theorem d_M_init_41 : decode b_M_init 41 = .ok (.putfield 23, 3) := by decide +kernel
theorem d_M_init_44 : decode b_M_init 44 = .ok (.aload_n 0, 1) := by decide +kernel
theorem d_M_init_45 : decode b_M_init 45 = .ok (.bipush 8, 2) := by decide +kernel
theorem d_M_init_47 : decode b_M_init 47 = .ok (.newarray .boolean, 2) := by decide +kernel
theorem d_M_init_49 : decode b_M_init 49 = .ok (.putfield 26, 3) := by decide +kernel
theorem d_M_init_52 : decode b_M_init 52 = .ok (.aload_n 0, 1) := by decide +kernel
theorem d_M_init_53 : decode b_M_init 53 = .ok (.bipush 8, 2) := by decide +kernel
theorem d_M_init_55 : decode b_M_init 55 = .ok (.newarray .int, 2) := by decide +kernel
theorem d_M_init_57 : decode b_M_init 57 = .ok (.putfield 29, 3) := by decide +kernel
theorem d_M_init_60 : decode b_M_init 60 = .ok (.aload_n 0, 1) := by decide +kernel
theorem d_M_init_61 : decode b_M_init 61 = .ok (.bipush 8, 2) := by decide +kernel
theorem d_M_init_63 : decode b_M_init 63 = .ok (.newarray .int, 2) := by decide +kernel
theorem d_M_init_65 : decode b_M_init 65 = .ok (.putfield 32, 3) := by decide +kernel
theorem d_M_init_68 : decode b_M_init 68 = .ok (.aload_n 0, 1) := by decide +kernel
theorem d_M_init_69 : decode b_M_init 69 = .ok (.bipush 8, 2) := by decide +kernel
theorem d_M_init_71 : decode b_M_init 71 = .ok (.newarray .boolean, 2) := by decide +kernel
theorem d_M_init_73 : decode b_M_init 73 = .ok (.putfield 35, 3) := by decide +kernel
theorem d_M_init_76 : decode b_M_init 76 = .ok (.aload_n 0, 1) := by decide +kernel
theorem d_M_init_77 : decode b_M_init 77 = .ok (.bipush 8, 2) := by decide +kernel
theorem d_M_init_79 : decode b_M_init 79 = .ok (.newarray .int, 2) := by decide +kernel
theorem d_M_init_81 : decode b_M_init 81 = .ok (.putfield 38, 3) := by decide +kernel
theorem d_M_init_84 : decode b_M_init 84 = .ok (.aload_n 0, 1) := by decide +kernel
theorem d_M_init_85 : decode b_M_init 85 = .ok (.bipush 8, 2) := by decide +kernel
theorem d_M_init_87 : decode b_M_init 87 = .ok (.newarray .int, 2) := by decide +kernel
theorem d_M_init_89 : decode b_M_init 89 = .ok (.putfield 41, 3) := by decide +kernel
theorem d_M_init_92 : decode b_M_init 92 = .ok (.aload_n 0, 1) := by decide +kernel
theorem d_M_init_93 : decode b_M_init 93 = .ok (.bipush 7, 2) := by decide +kernel
theorem d_M_init_95 : decode b_M_init 95 = .ok (.newarray .int, 2) := by decide +kernel
theorem d_M_init_97 : decode b_M_init 97 = .ok (.putfield 44, 3) := by decide +kernel
theorem d_M_init_100 : decode b_M_init 100 = .ok (.aload_n 0, 1) := by decide +kernel
theorem d_M_init_101 : decode b_M_init 101 = .ok (.bipush 7, 2) := by decide +kernel
theorem d_M_init_103 : decode b_M_init 103 = .ok (.newarray .int, 2) := by decide +kernel
theorem d_M_init_105 : decode b_M_init 105 = .ok (.putfield 47, 3) := by decide +kernel
theorem d_M_init_108 : decode b_M_init 108 = .ok (.iload_n 1, 1) := by decide +kernel
theorem d_M_init_109 : decode b_M_init 109 = .ok (.invokestatic 50, 3) := by decide +kernel
theorem d_M_init_112 : decode b_M_init 112 = .ok (.ifCond .eq 71, 3) := by decide +kernel
theorem d_M_init_115 : decode b_M_init 115 = .ok (.iload_n 2, 1) := by decide +kernel
theorem d_M_init_116 : decode b_M_init 116 = .ok (.invokestatic 50, 3) := by decide +kernel
theorem d_M_init_119 : decode b_M_init 119 = .ok (.ifCond .eq 64, 3) := by decide +kernel
theorem d_M_init_122 : decode b_M_init 122 = .ok (.iload_n 1, 1) := by decide +kernel
theorem d_M_init_123 : decode b_M_init 123 = .ok (.iconst 1, 1) := by decide +kernel
theorem d_M_init_124 : decode b_M_init 124 = .ok (.isub, 1) := by decide +kernel
theorem d_M_init_125 : decode b_M_init 125 = .ok (.iload_n 2, 1) := by decide +kernel
theorem d_M_init_126 : decode b_M_init 126 = .ok (.irem, 1) := by decide +kernel
theorem d_M_init_127 : decode b_M_init 127 = .ok (.ifCond .ne 56, 3) := by decide +kernel
theorem d_M_init_130 : decode b_M_init 130 = .ok (.iload_n 3, 1) := by decide +kernel
theorem d_M_init_131 : decode b_M_init 131 = .ok (.iconst 2, 1) := by decide +kernel
theorem d_M_init_132 : decode b_M_init 132 = .ok (.if_icmp .lt 51, 3) := by decide +kernel
theorem d_M_init_135 : decode b_M_init 135 = .ok (.iload_n 3, 1) := by decide +kernel
theorem d_M_init_136 : decode b_M_init 136 = .ok (.iload_n 1, 1) := by decide +kernel
theorem d_M_init_137 : decode b_M_init 137 = .ok (.if_icmp .ge 46, 3) := by decide +kernel
theorem d_M_init_140 : decode b_M_init 140 = .ok (.iload 4, 2) := by decide +kernel
theorem d_M_init_142 : decode b_M_init 142 = .ok (.iconst 2, 1) := by decide +kernel
theorem d_M_init_143 : decode b_M_init 143 = .ok (.if_icmp .lt 40, 3) := by decide +kernel
theorem d_M_init_146 : decode b_M_init 146 = .ok (.iload 4, 2) := by decide +kernel
theorem d_M_init_148 : decode b_M_init 148 = .ok (.iload_n 1, 1) := by decide +kernel
theorem d_M_init_149 : decode b_M_init 149 = .ok (.if_icmp .ge 34, 3) := by decide +kernel
theorem d_M_init_152 : decode b_M_init 152 = .ok (.iload_n 3, 1) := by decide +kernel
theorem d_M_init_153 : decode b_M_init 153 = .ok (.iload 4, 2) := by decide +kernel
theorem d_M_init_155 : decode b_M_init 155 = .ok (.if_icmp .eq 28, 3) := by decide +kernel
theorem d_M_init_158 : decode b_M_init 158 = .ok (.iload_n 3, 1) := by decide +kernel
theorem d_M_init_159 : decode b_M_init 159 = .ok (.iload_n 2, 1) := by decide +kernel
theorem d_M_init_160 : decode b_M_init 160 = .ok (.iload_n 1, 1) := by decide +kernel
theorem d_M_init_161 : decode b_M_init 161 = .ok (.invokestatic 54, 3) := by decide +kernel
theorem d_M_init_164 : decode b_M_init 164 = .ok (.iconst 1, 1) := by decide +kernel
theorem d_M_init_165 : decode b_M_init 165 = .ok (.if_icmp .ne 18, 3) := by decide +kernel
theorem d_M_init_168 : decode b_M_init 168 = .ok (.iload 4, 2) := by decide +kernel
theorem d_M_init_170 : decode b_M_init 170 = .ok (.iload_n 2, 1) := by decide +kernel
theorem d_M_init_171 : decode b_M_init 171 = .ok (.iload_n 1, 1) := by decide +kernel
theorem d_M_init_172 : decode b_M_init 172 = .ok (.invokestatic 54, 3) := by decide +kernel
theorem d_M_init_175 : decode b_M_init 175 = .ok (.iconst 1, 1) := by decide +kernel
theorem d_M_init_176 : decode b_M_init 176 = .ok (.if_icmp .ne 7, 3) := by decide +kernel
theorem d_M_init_179 : decode b_M_init 179 = .ok (.iconst 1, 1) := by decide +kernel
theorem d_M_init_180 : decode b_M_init 180 = .ok (.goto 4, 3) := by decide +kernel
theorem d_M_init_183 : decode b_M_init 183 = .ok (.iconst 0, 1) := by decide +kernel
theorem d_M_init_184 : decode b_M_init 184 = .ok (.istore 5, 2) := by decide +kernel
theorem d_M_init_186 : decode b_M_init 186 = .ok (.aload_n 0, 1) := by decide +kernel
theorem d_M_init_187 : decode b_M_init 187 = .ok (.iload 5, 2) := by decide +kernel
theorem d_M_init_189 : decode b_M_init 189 = .ok (.ifCond .eq 7, 3) := by decide +kernel
theorem d_M_init_192 : decode b_M_init 192 = .ok (.iload_n 1, 1) := by decide +kernel
theorem d_M_init_193 : decode b_M_init 193 = .ok (.goto 6, 3) := by decide +kernel
theorem d_M_init_196 : decode b_M_init 196 = .ok (.sipush 2039, 3) := by decide +kernel
theorem d_M_init_199 : decode b_M_init 199 = .ok (.putfield 58, 3) := by decide +kernel
theorem d_M_init_202 : decode b_M_init 202 = .ok (.aload_n 0, 1) := by decide +kernel
theorem d_M_init_203 : decode b_M_init 203 = .ok (.iload 5, 2) := by decide +kernel
theorem d_M_init_205 : decode b_M_init 205 = .ok (.ifCond .eq 7, 3) := by decide +kernel
theorem d_M_init_208 : decode b_M_init 208 = .ok (.iload_n 2, 1) := by decide +kernel
theorem d_M_init_209 : decode b_M_init 209 = .ok (.goto 6, 3) := by decide +kernel
theorem d_M_init_212 : decode b_M_init 212 = .ok (.sipush 1019, 3) := by decide +kernel
theorem d_M_init_215 : decode b_M_init 215 = .ok (.putfield 62, 3) := by decide +kernel
theorem d_M_init_218 : decode b_M_init 218 = .ok (.aload_n 0, 1) := by decide +kernel
theorem d_M_init_219 : decode b_M_init 219 = .ok (.iload 5, 2) := by decide +kernel
theorem d_M_init_221 : decode b_M_init 221 = .ok (.ifCond .eq 7, 3) := by decide +kernel
theorem d_M_init_224 : decode b_M_init 224 = .ok (.iload_n 3, 1) := by decide +kernel
theorem d_M_init_225 : decode b_M_init 225 = .ok (.goto 4, 3) := by decide +kernel
theorem d_M_init_228 : decode b_M_init 228 = .ok (.iconst 4, 1) := by decide +kernel
theorem d_M_init_229 : decode b_M_init 229 = .ok (.putfield 65, 3) := by decide +kernel
theorem d_M_init_232 : decode b_M_init 232 = .ok (.aload_n 0, 1) := by decide +kernel
theorem d_M_init_233 : decode b_M_init 233 = .ok (.iload 5, 2) := by decide +kernel
theorem d_M_init_235 : decode b_M_init 235 = .ok (.ifCond .eq 8, 3) := by decide +kernel
theorem d_M_init_238 : decode b_M_init 238 = .ok (.iload 4, 2) := by decide +kernel
theorem d_M_init_240 : decode b_M_init 240 = .ok (.goto 5, 3) := by decide +kernel
theorem d_M_init_243 : decode b_M_init 243 = .ok (.bipush 9, 2) := by decide +kernel
theorem d_M_init_245 : decode b_M_init 245 = .ok (.putfield 68, 3) := by decide +kernel
theorem d_M_init_248 : decode b_M_init 248 = .ok (.return_, 1) := by decide +kernel
theorem d_M_prime_0 : decode b_M_prime 0 = .ok (.iload_n 0, 1) := by decide +kernel
theorem d_M_prime_1 : decode b_M_prime 1 = .ok (.iconst 2, 1) := by decide +kernel
theorem d_M_prime_2 : decode b_M_prime 2 = .ok (.if_icmp .ge 5, 3) := by decide +kernel
theorem d_M_prime_5 : decode b_M_prime 5 = .ok (.iconst 0, 1) := by decide +kernel
theorem d_M_prime_6 : decode b_M_prime 6 = .ok (.ireturn, 1) := by decide +kernel
theorem d_M_prime_7 : decode b_M_prime 7 = .ok (.iconst 2, 1) := by decide +kernel
theorem d_M_prime_8 : decode b_M_prime 8 = .ok (.istore_n 1, 1) := by decide +kernel
theorem d_M_prime_9 : decode b_M_prime 9 = .ok (.iload_n 1, 1) := by decide +kernel
theorem d_M_prime_10 : decode b_M_prime 10 = .ok (.ldc 71, 2) := by decide +kernel
theorem d_M_prime_12 : decode b_M_prime 12 = .ok (.if_icmp .gt 24, 3) := by decide +kernel
theorem d_M_prime_15 : decode b_M_prime 15 = .ok (.iload_n 1, 1) := by decide +kernel
theorem d_M_prime_16 : decode b_M_prime 16 = .ok (.iload_n 1, 1) := by decide +kernel
theorem d_M_prime_17 : decode b_M_prime 17 = .ok (.imul, 1) := by decide +kernel
theorem d_M_prime_18 : decode b_M_prime 18 = .ok (.iload_n 0, 1) := by decide +kernel
theorem d_M_prime_19 : decode b_M_prime 19 = .ok (.if_icmp .gt 17, 3) := by decide +kernel
theorem d_M_prime_22 : decode b_M_prime 22 = .ok (.iload_n 0, 1) := by decide +kernel
theorem d_M_prime_23 : decode b_M_prime 23 = .ok (.iload_n 1, 1) := by decide +kernel
theorem d_M_prime_24 : decode b_M_prime 24 = .ok (.irem, 1) := by decide +kernel
theorem d_M_prime_25 : decode b_M_prime 25 = .ok (.ifCond .ne 5, 3) := by decide +kernel
theorem d_M_prime_28 : decode b_M_prime 28 = .ok (.iconst 0, 1) := by decide +kernel
theorem d_M_prime_29 : decode b_M_prime 29 = .ok (.ireturn, 1) := by decide +kernel
theorem d_M_prime_30 : decode b_M_prime 30 = .ok (.iinc 1 1, 3) := by decide +kernel
theorem d_M_prime_33 : decode b_M_prime 33 = .ok (.goto (-24), 3) := by decide +kernel
theorem d_M_prime_36 : decode b_M_prime 36 = .ok (.iconst 1, 1) := by decide +kernel
theorem d_M_prime_37 : decode b_M_prime 37 = .ok (.ireturn, 1) := by decide +kernel
theorem d_M_times_0 : decode b_M_times 0 = .ok (.iload_n 0, 1) := by decide +kernel
theorem d_M_times_1 : decode b_M_times 1 = .ok (.i2l, 1) := by decide +kernel
theorem d_M_times_2 : decode b_M_times 2 = .ok (.iload_n 1, 1) := by decide +kernel
theorem d_M_times_3 : decode b_M_times 3 = .ok (.i2l, 1) := by decide +kernel
theorem d_M_times_4 : decode b_M_times 4 = .ok (.lmul, 1) := by decide +kernel
theorem d_M_times_5 : decode b_M_times 5 = .ok (.iload_n 2, 1) := by decide +kernel
theorem d_M_times_6 : decode b_M_times 6 = .ok (.i2l, 1) := by decide +kernel
theorem d_M_times_7 : decode b_M_times 7 = .ok (.lrem, 1) := by decide +kernel
theorem d_M_times_8 : decode b_M_times 8 = .ok (.l2i, 1) := by decide +kernel
theorem d_M_times_9 : decode b_M_times 9 = .ok (.ireturn, 1) := by decide +kernel
theorem d_M_power_0 : decode b_M_power 0 = .ok (.iconst 1, 1) := by decide +kernel
theorem d_M_power_1 : decode b_M_power 1 = .ok (.iload_n 2, 1) := by decide +kernel
theorem d_M_power_2 : decode b_M_power 2 = .ok (.irem, 1) := by decide +kernel
theorem d_M_power_3 : decode b_M_power 3 = .ok (.istore_n 3, 1) := by decide +kernel
theorem d_M_power_4 : decode b_M_power 4 = .ok (.iload_n 0, 1) := by decide +kernel
theorem d_M_power_5 : decode b_M_power 5 = .ok (.iload_n 2, 1) := by decide +kernel
theorem d_M_power_6 : decode b_M_power 6 = .ok (.irem, 1) := by decide +kernel
theorem d_M_power_7 : decode b_M_power 7 = .ok (.istore 4, 2) := by decide +kernel
theorem d_M_power_9 : decode b_M_power 9 = .ok (.iload_n 1, 1) := by decide +kernel
theorem d_M_power_10 : decode b_M_power 10 = .ok (.istore 5, 2) := by decide +kernel
theorem d_M_power_12 : decode b_M_power 12 = .ok (.iload 5, 2) := by decide +kernel
theorem d_M_power_14 : decode b_M_power 14 = .ok (.ifCond .le 42, 3) := by decide +kernel
theorem d_M_power_17 : decode b_M_power 17 = .ok (.iload 5, 2) := by decide +kernel
theorem d_M_power_19 : decode b_M_power 19 = .ok (.iconst 2, 1) := by decide +kernel
theorem d_M_power_20 : decode b_M_power 20 = .ok (.irem, 1) := by decide +kernel
theorem d_M_power_21 : decode b_M_power 21 = .ok (.iconst 1, 1) := by decide +kernel
theorem d_M_power_22 : decode b_M_power 22 = .ok (.if_icmp .ne 13, 3) := by decide +kernel
theorem d_M_power_25 : decode b_M_power 25 = .ok (.iload_n 3, 1) := by decide +kernel
theorem d_M_power_26 : decode b_M_power 26 = .ok (.iload 4, 2) := by decide +kernel
theorem d_M_power_28 : decode b_M_power 28 = .ok (.iload_n 2, 1) := by decide +kernel
theorem d_M_power_29 : decode b_M_power 29 = .ok (.invokestatic 72, 3) := by decide +kernel
theorem d_M_power_32 : decode b_M_power 32 = .ok (.goto 4, 3) := by decide +kernel
theorem d_M_power_35 : decode b_M_power 35 = .ok (.iload_n 3, 1) := by decide +kernel
theorem d_M_power_36 : decode b_M_power 36 = .ok (.istore_n 3, 1) := by decide +kernel
theorem d_M_power_37 : decode b_M_power 37 = .ok (.iload 4, 2) := by decide +kernel
theorem d_M_power_39 : decode b_M_power 39 = .ok (.iload 4, 2) := by decide +kernel
theorem d_M_power_41 : decode b_M_power 41 = .ok (.iload_n 2, 1) := by decide +kernel
theorem d_M_power_42 : decode b_M_power 42 = .ok (.invokestatic 72, 3) := by decide +kernel
theorem d_M_power_45 : decode b_M_power 45 = .ok (.istore 4, 2) := by decide +kernel
theorem d_M_power_47 : decode b_M_power 47 = .ok (.iload 5, 2) := by decide +kernel
theorem d_M_power_49 : decode b_M_power 49 = .ok (.iconst 2, 1) := by decide +kernel
theorem d_M_power_50 : decode b_M_power 50 = .ok (.idiv, 1) := by decide +kernel
theorem d_M_power_51 : decode b_M_power 51 = .ok (.istore 5, 2) := by decide +kernel
theorem d_M_power_53 : decode b_M_power 53 = .ok (.goto (-41), 3) := by decide +kernel
theorem d_M_power_56 : decode b_M_power 56 = .ok (.iload_n 3, 1) := by decide +kernel
theorem d_M_power_57 : decode b_M_power 57 = .ok (.ireturn, 1) := by decide +kernel
theorem d_M_reduced_0 : decode b_M_reduced 0 = .ok (.iload_n 1, 1) := by decide +kernel
theorem d_M_reduced_1 : decode b_M_reduced 1 = .ok (.aload_n 0, 1) := by decide +kernel
theorem d_M_reduced_2 : decode b_M_reduced 2 = .ok (.getfield 62, 3) := by decide +kernel
theorem d_M_reduced_5 : decode b_M_reduced 5 = .ok (.irem, 1) := by decide +kernel
theorem d_M_reduced_6 : decode b_M_reduced 6 = .ok (.istore_n 2, 1) := by decide +kernel
theorem d_M_reduced_7 : decode b_M_reduced 7 = .ok (.iload_n 2, 1) := by decide +kernel
theorem d_M_reduced_8 : decode b_M_reduced 8 = .ok (.ifCond .ge 12, 3) := by decide +kernel
theorem d_M_reduced_11 : decode b_M_reduced 11 = .ok (.iload_n 2, 1) := by decide +kernel
theorem d_M_reduced_12 : decode b_M_reduced 12 = .ok (.aload_n 0, 1) := by decide +kernel
theorem d_M_reduced_13 : decode b_M_reduced 13 = .ok (.getfield 62, 3) := by decide +kernel
theorem d_M_reduced_16 : decode b_M_reduced 16 = .ok (.iadd, 1) := by decide +kernel
theorem d_M_reduced_17 : decode b_M_reduced 17 = .ok (.goto 4, 3) := by decide +kernel
theorem d_M_reduced_20 : decode b_M_reduced 20 = .ok (.iload_n 2, 1) := by decide +kernel
theorem d_M_reduced_21 : decode b_M_reduced 21 = .ok (.ireturn, 1) := by decide +kernel
theorem d_M_minus_0 : decode b_M_minus 0 = .ok (.iload_n 1, 1) := by decide +kernel
theorem d_M_minus_1 : decode b_M_minus 1 = .ok (.iload_n 2, 1) := by decide +kernel
theorem d_M_minus_2 : decode b_M_minus 2 = .ok (.if_icmp .lt 9, 3) := by decide +kernel
theorem d_M_minus_5 : decode b_M_minus 5 = .ok (.iload_n 1, 1) := by decide +kernel
theorem d_M_minus_6 : decode b_M_minus 6 = .ok (.iload_n 2, 1) := by decide +kernel
theorem d_M_minus_7 : decode b_M_minus 7 = .ok (.isub, 1) := by decide +kernel
theorem d_M_minus_8 : decode b_M_minus 8 = .ok (.goto 11, 3) := by decide +kernel
theorem d_M_minus_11 : decode b_M_minus 11 = .ok (.iload_n 1, 1) := by decide +kernel
theorem d_M_minus_12 : decode b_M_minus 12 = .ok (.iload_n 2, 1) := by decide +kernel
theorem d_M_minus_13 : decode b_M_minus 13 = .ok (.isub, 1) := by decide +kernel
theorem d_M_minus_14 : decode b_M_minus 14 = .ok (.aload_n 0, 1) := by decide +kernel
theorem d_M_minus_15 : decode b_M_minus 15 = .ok (.getfield 62, 3) := by decide +kernel
theorem d_M_minus_18 : decode b_M_minus 18 = .ok (.iadd, 1) := by decide +kernel
theorem d_M_minus_19 : decode b_M_minus 19 = .ok (.ireturn, 1) := by decide +kernel
theorem d_M_over_0 : decode b_M_over 0 = .ok (.iload_n 1, 1) := by decide +kernel
theorem d_M_over_1 : decode b_M_over 1 = .ok (.iload_n 2, 1) := by decide +kernel
theorem d_M_over_2 : decode b_M_over 2 = .ok (.aload_n 0, 1) := by decide +kernel
theorem d_M_over_3 : decode b_M_over 3 = .ok (.getfield 62, 3) := by decide +kernel
theorem d_M_over_6 : decode b_M_over 6 = .ok (.iconst 2, 1) := by decide +kernel
theorem d_M_over_7 : decode b_M_over 7 = .ok (.isub, 1) := by decide +kernel
theorem d_M_over_8 : decode b_M_over 8 = .ok (.aload_n 0, 1) := by decide +kernel
theorem d_M_over_9 : decode b_M_over 9 = .ok (.getfield 62, 3) := by decide +kernel
theorem d_M_over_12 : decode b_M_over 12 = .ok (.invokestatic 54, 3) := by decide +kernel
theorem d_M_over_15 : decode b_M_over 15 = .ok (.aload_n 0, 1) := by decide +kernel
theorem d_M_over_16 : decode b_M_over 16 = .ok (.getfield 62, 3) := by decide +kernel
theorem d_M_over_19 : decode b_M_over 19 = .ok (.invokestatic 72, 3) := by decide +kernel
theorem d_M_over_22 : decode b_M_over 22 = .ok (.ireturn, 1) := by decide +kernel
theorem d_M_at_0 : decode b_M_at 0 = .ok (.lconst 0, 1) := by decide +kernel
theorem d_M_at_1 : decode b_M_at 1 = .ok (.lstore_n 3, 1) := by decide +kernel
theorem d_M_at_2 : decode b_M_at 2 = .ok (.iconst 1, 1) := by decide +kernel
theorem d_M_at_3 : decode b_M_at 3 = .ok (.aload_n 0, 1) := by decide +kernel
theorem d_M_at_4 : decode b_M_at 4 = .ok (.getfield 62, 3) := by decide +kernel
theorem d_M_at_7 : decode b_M_at 7 = .ok (.irem, 1) := by decide +kernel
theorem d_M_at_8 : decode b_M_at 8 = .ok (.istore 5, 2) := by decide +kernel
theorem d_M_at_10 : decode b_M_at 10 = .ok (.iconst 0, 1) := by decide +kernel
theorem d_M_at_11 : decode b_M_at 11 = .ok (.istore 6, 2) := by decide +kernel
theorem d_M_at_13 : decode b_M_at 13 = .ok (.iload 6, 2) := by decide +kernel
theorem d_M_at_15 : decode b_M_at 15 = .ok (.aload_n 0, 1) := by decide +kernel
theorem d_M_at_16 : decode b_M_at 16 = .ok (.getfield 75, 3) := by decide +kernel
theorem d_M_at_19 : decode b_M_at 19 = .ok (.if_icmp .ge 49, 3) := by decide +kernel
theorem d_M_at_22 : decode b_M_at 22 = .ok (.lload_n 3, 1) := by decide +kernel
theorem d_M_at_23 : decode b_M_at 23 = .ok (.aload_n 1, 1) := by decide +kernel
theorem d_M_at_24 : decode b_M_at 24 = .ok (.iload 6, 2) := by decide +kernel
theorem d_M_at_26 : decode b_M_at 26 = .ok (.iaload, 1) := by decide +kernel
theorem d_M_at_27 : decode b_M_at 27 = .ok (.iload 5, 2) := by decide +kernel
theorem d_M_at_29 : decode b_M_at 29 = .ok (.aload_n 0, 1) := by decide +kernel
theorem d_M_at_30 : decode b_M_at 30 = .ok (.getfield 62, 3) := by decide +kernel
theorem d_M_at_33 : decode b_M_at 33 = .ok (.invokestatic 72, 3) := by decide +kernel
theorem d_M_at_36 : decode b_M_at 36 = .ok (.i2l, 1) := by decide +kernel
theorem d_M_at_37 : decode b_M_at 37 = .ok (.ladd, 1) := by decide +kernel
theorem d_M_at_38 : decode b_M_at 38 = .ok (.aload_n 0, 1) := by decide +kernel
theorem d_M_at_39 : decode b_M_at 39 = .ok (.getfield 62, 3) := by decide +kernel
theorem d_M_at_42 : decode b_M_at 42 = .ok (.i2l, 1) := by decide +kernel
theorem d_M_at_43 : decode b_M_at 43 = .ok (.lrem, 1) := by decide +kernel
theorem d_M_at_44 : decode b_M_at 44 = .ok (.lstore_n 3, 1) := by decide +kernel
theorem d_M_at_45 : decode b_M_at 45 = .ok (.iload 5, 2) := by decide +kernel
theorem d_M_at_47 : decode b_M_at 47 = .ok (.iload_n 2, 1) := by decide +kernel
theorem d_M_at_48 : decode b_M_at 48 = .ok (.aload_n 0, 1) := by decide +kernel
theorem d_M_at_49 : decode b_M_at 49 = .ok (.getfield 62, 3) := by decide +kernel
theorem d_M_at_52 : decode b_M_at 52 = .ok (.irem, 1) := by decide +kernel
theorem d_M_at_53 : decode b_M_at 53 = .ok (.aload_n 0, 1) := by decide +kernel
theorem d_M_at_54 : decode b_M_at 54 = .ok (.getfield 62, 3) := by decide +kernel
theorem d_M_at_57 : decode b_M_at 57 = .ok (.invokestatic 72, 3) := by decide +kernel
theorem d_M_at_60 : decode b_M_at 60 = .ok (.istore 5, 2) := by decide +kernel
theorem d_M_at_62 : decode b_M_at 62 = .ok (.iinc 6 1, 3) := by decide +kernel
theorem d_M_at_65 : decode b_M_at 65 = .ok (.goto (-52), 3) := by decide +kernel
theorem d_M_at_68 : decode b_M_at 68 = .ok (.lload_n 3, 1) := by decide +kernel
theorem d_M_at_69 : decode b_M_at 69 = .ok (.l2i, 1) := by decide +kernel
theorem d_M_at_70 : decode b_M_at 70 = .ok (.ireturn, 1) := by decide +kernel
theorem d_M_paired_0 : decode b_M_paired 0 = .ok (.aload_n 0, 1) := by decide +kernel
theorem d_M_paired_1 : decode b_M_paired 1 = .ok (.getfield 65, 3) := by decide +kernel
theorem d_M_paired_4 : decode b_M_paired 4 = .ok (.iload_n 1, 1) := by decide +kernel
theorem d_M_paired_5 : decode b_M_paired 5 = .ok (.aload_n 0, 1) := by decide +kernel
theorem d_M_paired_6 : decode b_M_paired 6 = .ok (.getfield 58, 3) := by decide +kernel
theorem d_M_paired_9 : decode b_M_paired 9 = .ok (.invokestatic 54, 3) := by decide +kernel
theorem d_M_paired_12 : decode b_M_paired 12 = .ok (.aload_n 0, 1) := by decide +kernel
theorem d_M_paired_13 : decode b_M_paired 13 = .ok (.getfield 68, 3) := by decide +kernel
theorem d_M_paired_16 : decode b_M_paired 16 = .ok (.iload_n 2, 1) := by decide +kernel
theorem d_M_paired_17 : decode b_M_paired 17 = .ok (.aload_n 0, 1) := by decide +kernel
theorem d_M_paired_18 : decode b_M_paired 18 = .ok (.getfield 58, 3) := by decide +kernel
theorem d_M_paired_21 : decode b_M_paired 21 = .ok (.invokestatic 54, 3) := by decide +kernel
theorem d_M_paired_24 : decode b_M_paired 24 = .ok (.aload_n 0, 1) := by decide +kernel
theorem d_M_paired_25 : decode b_M_paired 25 = .ok (.getfield 58, 3) := by decide +kernel
theorem d_M_paired_28 : decode b_M_paired 28 = .ok (.invokestatic 72, 3) := by decide +kernel
theorem d_M_paired_31 : decode b_M_paired 31 = .ok (.ireturn, 1) := by decide +kernel
theorem d_M_fit_0 : decode b_M_fit 0 = .ok (.iconst 1, 1) := by decide +kernel
theorem d_M_fit_1 : decode b_M_fit 1 = .ok (.istore 4, 2) := by decide +kernel
theorem d_M_fit_3 : decode b_M_fit 3 = .ok (.iconst 1, 1) := by decide +kernel
theorem d_M_fit_4 : decode b_M_fit 4 = .ok (.istore 5, 2) := by decide +kernel
theorem d_M_fit_6 : decode b_M_fit 6 = .ok (.iconst 0, 1) := by decide +kernel
theorem d_M_fit_7 : decode b_M_fit 7 = .ok (.istore 6, 2) := by decide +kernel
theorem d_M_fit_9 : decode b_M_fit 9 = .ok (.iload 6, 2) := by decide +kernel
theorem d_M_fit_11 : decode b_M_fit 11 = .ok (.aload_n 0, 1) := by decide +kernel
theorem d_M_fit_12 : decode b_M_fit 12 = .ok (.getfield 75, 3) := by decide +kernel
theorem d_M_fit_15 : decode b_M_fit 15 = .ok (.if_icmp .ge 42, 3) := by decide +kernel
theorem d_M_fit_18 : decode b_M_fit 18 = .ok (.iload 4, 2) := by decide +kernel
theorem d_M_fit_20 : decode b_M_fit 20 = .ok (.aload_n 0, 1) := by decide +kernel
theorem d_M_fit_21 : decode b_M_fit 21 = .ok (.getfield 16, 3) := by decide +kernel
theorem d_M_fit_24 : decode b_M_fit 24 = .ok (.iload 6, 2) := by decide +kernel
theorem d_M_fit_26 : decode b_M_fit 26 = .ok (.iaload, 1) := by decide +kernel
theorem d_M_fit_27 : decode b_M_fit 27 = .ok (.iload 5, 2) := by decide +kernel
theorem d_M_fit_29 : decode b_M_fit 29 = .ok (.aload_n 0, 1) := by decide +kernel
theorem d_M_fit_30 : decode b_M_fit 30 = .ok (.getfield 58, 3) := by decide +kernel
theorem d_M_fit_33 : decode b_M_fit 33 = .ok (.invokestatic 54, 3) := by decide +kernel
theorem d_M_fit_36 : decode b_M_fit 36 = .ok (.aload_n 0, 1) := by decide +kernel
theorem d_M_fit_37 : decode b_M_fit 37 = .ok (.getfield 58, 3) := by decide +kernel
theorem d_M_fit_40 : decode b_M_fit 40 = .ok (.invokestatic 72, 3) := by decide +kernel
theorem d_M_fit_43 : decode b_M_fit 43 = .ok (.istore 4, 2) := by decide +kernel
theorem d_M_fit_45 : decode b_M_fit 45 = .ok (.iload 5, 2) := by decide +kernel
theorem d_M_fit_47 : decode b_M_fit 47 = .ok (.iload_n 1, 1) := by decide +kernel
theorem d_M_fit_48 : decode b_M_fit 48 = .ok (.imul, 1) := by decide +kernel
theorem d_M_fit_49 : decode b_M_fit 49 = .ok (.istore 5, 2) := by decide +kernel
theorem d_M_fit_51 : decode b_M_fit 51 = .ok (.iinc 6 1, 3) := by decide +kernel
theorem d_M_fit_54 : decode b_M_fit 54 = .ok (.goto (-45), 3) := by decide +kernel
theorem d_M_fit_57 : decode b_M_fit 57 = .ok (.aload_n 0, 1) := by decide +kernel
theorem d_M_fit_58 : decode b_M_fit 58 = .ok (.iload_n 2, 1) := by decide +kernel
theorem d_M_fit_59 : decode b_M_fit 59 = .ok (.iload_n 3, 1) := by decide +kernel
theorem d_M_fit_60 : decode b_M_fit 60 = .ok (.invokevirtual 78, 3) := by decide +kernel
theorem d_M_fit_63 : decode b_M_fit 63 = .ok (.iload 4, 2) := by decide +kernel
theorem d_M_fit_65 : decode b_M_fit 65 = .ok (.if_icmp .ne 7, 3) := by decide +kernel
theorem d_M_fit_68 : decode b_M_fit 68 = .ok (.iconst 1, 1) := by decide +kernel
theorem d_M_fit_69 : decode b_M_fit 69 = .ok (.goto 4, 3) := by decide +kernel
theorem d_M_fit_72 : decode b_M_fit 72 = .ok (.iconst 0, 1) := by decide +kernel
theorem d_M_fit_73 : decode b_M_fit 73 = .ok (.ireturn, 1) := by decide +kernel
theorem d_M_isOne_0 : decode b_M_isOne 0 = .ok (.iload_n 1, 1) := by decide +kernel
theorem d_M_isOne_1 : decode b_M_isOne 1 = .ok (.iconst 1, 1) := by decide +kernel
theorem d_M_isOne_2 : decode b_M_isOne 2 = .ok (.if_icmp .lt 15, 3) := by decide +kernel
theorem d_M_isOne_5 : decode b_M_isOne 5 = .ok (.iload_n 1, 1) := by decide +kernel
theorem d_M_isOne_6 : decode b_M_isOne 6 = .ok (.aload_n 0, 1) := by decide +kernel
theorem d_M_isOne_7 : decode b_M_isOne 7 = .ok (.getfield 82, 3) := by decide +kernel
theorem d_M_isOne_10 : decode b_M_isOne 10 = .ok (.if_icmp .gt 7, 3) := by decide +kernel
theorem d_M_isOne_13 : decode b_M_isOne 13 = .ok (.iconst 1, 1) := by decide +kernel
theorem d_M_isOne_14 : decode b_M_isOne 14 = .ok (.goto 4, 3) := by decide +kernel
theorem d_M_isOne_17 : decode b_M_isOne 17 = .ok (.iconst 0, 1) := by decide +kernel
theorem d_M_isOne_18 : decode b_M_isOne 18 = .ok (.ireturn, 1) := by decide +kernel
theorem d_M_refuses_0 : decode b_M_refuses 0 = .ok (.aload_n 0, 1) := by decide +kernel
theorem d_M_refuses_1 : decode b_M_refuses 1 = .ok (.iload_n 1, 1) := by decide +kernel
theorem d_M_refuses_2 : decode b_M_refuses 2 = .ok (.ifCond .eq 7, 3) := by decide +kernel
theorem d_M_refuses_5 : decode b_M_refuses 5 = .ok (.iconst 1, 1) := by decide +kernel
theorem d_M_refuses_6 : decode b_M_refuses 6 = .ok (.goto 12, 3) := by decide +kernel
theorem d_M_refuses_9 : decode b_M_refuses 9 = .ok (.iload_n 2, 1) := by decide +kernel
theorem d_M_refuses_10 : decode b_M_refuses 10 = .ok (.ifCond .eq 7, 3) := by decide +kernel
theorem d_M_refuses_13 : decode b_M_refuses 13 = .ok (.iconst 2, 1) := by decide +kernel
theorem d_M_refuses_14 : decode b_M_refuses 14 = .ok (.goto 4, 3) := by decide +kernel
theorem d_M_refuses_17 : decode b_M_refuses 17 = .ok (.iconst 0, 1) := by decide +kernel
theorem d_M_refuses_18 : decode b_M_refuses 18 = .ok (.putfield 85, 3) := by decide +kernel
theorem d_M_refuses_21 : decode b_M_refuses 21 = .ok (.aload_n 0, 1) := by decide +kernel
theorem d_M_refuses_22 : decode b_M_refuses 22 = .ok (.getfield 85, 3) := by decide +kernel
theorem d_M_refuses_25 : decode b_M_refuses 25 = .ok (.ifCond .le 7, 3) := by decide +kernel
theorem d_M_refuses_28 : decode b_M_refuses 28 = .ok (.iconst 1, 1) := by decide +kernel
theorem d_M_refuses_29 : decode b_M_refuses 29 = .ok (.goto 4, 3) := by decide +kernel
theorem d_M_refuses_32 : decode b_M_refuses 32 = .ok (.iconst 0, 1) := by decide +kernel
theorem d_M_refuses_33 : decode b_M_refuses 33 = .ok (.ireturn, 1) := by decide +kernel
theorem d_M_thrown_0 : decode b_M_thrown 0 = .ok (.aload_n 0, 1) := by decide +kernel
theorem d_M_thrown_1 : decode b_M_thrown 1 = .ok (.getfield 85, 3) := by decide +kernel
theorem d_M_thrown_4 : decode b_M_thrown 4 = .ok (.ireturn, 1) := by decide +kernel
theorem d_M_group_0 : decode b_M_group 0 = .ok (.aload_n 0, 1) := by decide +kernel
theorem d_M_group_1 : decode b_M_group 1 = .ok (.iconst 0, 1) := by decide +kernel
theorem d_M_group_2 : decode b_M_group 2 = .ok (.putfield 85, 3) := by decide +kernel
theorem d_M_group_5 : decode b_M_group 5 = .ok (.iload_n 1, 1) := by decide +kernel
theorem d_M_group_6 : decode b_M_group 6 = .ok (.ifCond .ne 10, 3) := by decide +kernel
theorem d_M_group_9 : decode b_M_group 9 = .ok (.aload_n 0, 1) := by decide +kernel
theorem d_M_group_10 : decode b_M_group 10 = .ok (.getfield 58, 3) := by decide +kernel
theorem d_M_group_13 : decode b_M_group 13 = .ok (.goto 40, 3) := by decide +kernel
theorem d_M_group_16 : decode b_M_group 16 = .ok (.iload_n 1, 1) := by decide +kernel
theorem d_M_group_17 : decode b_M_group 17 = .ok (.iconst 1, 1) := by decide +kernel
theorem d_M_group_18 : decode b_M_group 18 = .ok (.if_icmp .ne 10, 3) := by decide +kernel
theorem d_M_group_21 : decode b_M_group 21 = .ok (.aload_n 0, 1) := by decide +kernel
theorem d_M_group_22 : decode b_M_group 22 = .ok (.getfield 62, 3) := by decide +kernel
theorem d_M_group_25 : decode b_M_group 25 = .ok (.goto 28, 3) := by decide +kernel
theorem d_M_group_28 : decode b_M_group 28 = .ok (.iload_n 1, 1) := by decide +kernel
theorem d_M_group_29 : decode b_M_group 29 = .ok (.iconst 2, 1) := by decide +kernel
theorem d_M_group_30 : decode b_M_group 30 = .ok (.if_icmp .ne 10, 3) := by decide +kernel
theorem d_M_group_33 : decode b_M_group 33 = .ok (.aload_n 0, 1) := by decide +kernel
theorem d_M_group_34 : decode b_M_group 34 = .ok (.getfield 65, 3) := by decide +kernel
theorem d_M_group_37 : decode b_M_group 37 = .ok (.goto 16, 3) := by decide +kernel
theorem d_M_group_40 : decode b_M_group 40 = .ok (.iload_n 1, 1) := by decide +kernel
theorem d_M_group_41 : decode b_M_group 41 = .ok (.iconst 3, 1) := by decide +kernel
theorem d_M_group_42 : decode b_M_group 42 = .ok (.if_icmp .ne 10, 3) := by decide +kernel
theorem d_M_group_45 : decode b_M_group 45 = .ok (.aload_n 0, 1) := by decide +kernel
theorem d_M_group_46 : decode b_M_group 46 = .ok (.getfield 68, 3) := by decide +kernel
theorem d_M_group_49 : decode b_M_group 49 = .ok (.goto 4, 3) := by decide +kernel
theorem d_M_group_52 : decode b_M_group 52 = .ok (.iconst 0, 1) := by decide +kernel
theorem d_M_group_53 : decode b_M_group 53 = .ok (.ireturn, 1) := by decide +kernel
theorem d_M_begin_0 : decode b_M_begin 0 = .ok (.iload_n 1, 1) := by decide +kernel
theorem d_M_begin_1 : decode b_M_begin 1 = .ok (.iconst 1, 1) := by decide +kernel
theorem d_M_begin_2 : decode b_M_begin 2 = .ok (.if_icmp .lt 27, 3) := by decide +kernel
theorem d_M_begin_5 : decode b_M_begin 5 = .ok (.iload_n 1, 1) := by decide +kernel
theorem d_M_begin_6 : decode b_M_begin 6 = .ok (.bipush 7, 2) := by decide +kernel
theorem d_M_begin_8 : decode b_M_begin 8 = .ok (.if_icmp .gt 21, 3) := by decide +kernel
theorem d_M_begin_11 : decode b_M_begin 11 = .ok (.iload_n 2, 1) := by decide +kernel
theorem d_M_begin_12 : decode b_M_begin 12 = .ok (.iconst 1, 1) := by decide +kernel
theorem d_M_begin_13 : decode b_M_begin 13 = .ok (.if_icmp .lt 16, 3) := by decide +kernel
theorem d_M_begin_16 : decode b_M_begin 16 = .ok (.iload_n 2, 1) := by decide +kernel
theorem d_M_begin_17 : decode b_M_begin 17 = .ok (.iload_n 1, 1) := by decide +kernel
theorem d_M_begin_18 : decode b_M_begin 18 = .ok (.if_icmp .gt 11, 3) := by decide +kernel
theorem d_M_begin_21 : decode b_M_begin 21 = .ok (.aload_n 0, 1) := by decide +kernel
theorem d_M_begin_22 : decode b_M_begin 22 = .ok (.getfield 62, 3) := by decide +kernel
theorem d_M_begin_25 : decode b_M_begin 25 = .ok (.iload_n 1, 1) := by decide +kernel
theorem d_M_begin_26 : decode b_M_begin 26 = .ok (.if_icmp .gt 7, 3) := by decide +kernel
theorem d_M_begin_29 : decode b_M_begin 29 = .ok (.iconst 1, 1) := by decide +kernel
theorem d_M_begin_30 : decode b_M_begin 30 = .ok (.goto 4, 3) := by decide +kernel
theorem d_M_begin_33 : decode b_M_begin 33 = .ok (.iconst 0, 1) := by decide +kernel
theorem d_M_begin_34 : decode b_M_begin 34 = .ok (.istore 4, 2) := by decide +kernel
theorem d_M_begin_36 : decode b_M_begin 36 = .ok (.aload_n 0, 1) := by decide +kernel
theorem d_M_begin_37 : decode b_M_begin 37 = .ok (.iload 4, 2) := by decide +kernel
theorem d_M_begin_39 : decode b_M_begin 39 = .ok (.ifCond .eq 7, 3) := by decide +kernel
theorem d_M_begin_42 : decode b_M_begin 42 = .ok (.iconst 1, 1) := by decide +kernel
theorem d_M_begin_43 : decode b_M_begin 43 = .ok (.goto 4, 3) := by decide +kernel
theorem d_M_begin_46 : decode b_M_begin 46 = .ok (.iconst 0, 1) := by decide +kernel
theorem d_M_begin_47 : decode b_M_begin 47 = .ok (.putfield 85, 3) := by decide +kernel
theorem d_M_begin_50 : decode b_M_begin 50 = .ok (.iload 4, 2) := by decide +kernel
theorem d_M_begin_52 : decode b_M_begin 52 = .ok (.ifCond .eq 4, 3) := by decide +kernel
theorem d_M_begin_55 : decode b_M_begin 55 = .ok (.return_, 1) := by decide +kernel
theorem d_M_begin_56 : decode b_M_begin 56 = .ok (.aload_n 0, 1) := by decide +kernel
theorem d_M_begin_57 : decode b_M_begin 57 = .ok (.iload_n 1, 1) := by decide +kernel
theorem d_M_begin_58 : decode b_M_begin 58 = .ok (.putfield 82, 3) := by decide +kernel
theorem d_M_begin_61 : decode b_M_begin 61 = .ok (.aload_n 0, 1) := by decide +kernel
theorem d_M_begin_62 : decode b_M_begin 62 = .ok (.iload_n 2, 1) := by decide +kernel
theorem d_M_begin_63 : decode b_M_begin 63 = .ok (.putfield 75, 3) := by decide +kernel
theorem d_M_begin_66 : decode b_M_begin 66 = .ok (.aload_n 0, 1) := by decide +kernel
theorem d_M_begin_67 : decode b_M_begin 67 = .ok (.iload_n 3, 1) := by decide +kernel
theorem d_M_begin_68 : decode b_M_begin 68 = .ok (.putfield 88, 3) := by decide +kernel
theorem d_M_begin_71 : decode b_M_begin 71 = .ok (.aload_n 0, 1) := by decide +kernel
theorem d_M_begin_72 : decode b_M_begin 72 = .ok (.iconst 1, 1) := by decide +kernel
theorem d_M_begin_73 : decode b_M_begin 73 = .ok (.putfield 92, 3) := by decide +kernel
theorem d_M_begin_76 : decode b_M_begin 76 = .ok (.aload_n 0, 1) := by decide +kernel
theorem d_M_begin_77 : decode b_M_begin 77 = .ok (.iconst 0, 1) := by decide +kernel
theorem d_M_begin_78 : decode b_M_begin 78 = .ok (.putfield 95, 3) := by decide +kernel
theorem d_M_begin_81 : decode b_M_begin 81 = .ok (.iconst 0, 1) := by decide +kernel
theorem d_M_begin_82 : decode b_M_begin 82 = .ok (.istore 5, 2) := by decide +kernel
theorem d_M_begin_84 : decode b_M_begin 84 = .ok (.iload 5, 2) := by decide +kernel
theorem d_M_begin_86 : decode b_M_begin 86 = .ok (.bipush 7, 2) := by decide +kernel
theorem d_M_begin_88 : decode b_M_begin 88 = .ok (.if_icmp .ge 33, 3) := by decide +kernel
theorem d_M_begin_91 : decode b_M_begin 91 = .ok (.aload_n 0, 1) := by decide +kernel
theorem d_M_begin_92 : decode b_M_begin 92 = .ok (.getfield 7, 3) := by decide +kernel
theorem d_M_begin_95 : decode b_M_begin 95 = .ok (.iload 5, 2) := by decide +kernel
theorem d_M_begin_97 : decode b_M_begin 97 = .ok (.iconst 0, 1) := by decide +kernel
theorem d_M_begin_98 : decode b_M_begin 98 = .ok (.iastore, 1) := by decide +kernel
theorem d_M_begin_99 : decode b_M_begin 99 = .ok (.aload_n 0, 1) := by decide +kernel
theorem d_M_begin_100 : decode b_M_begin 100 = .ok (.getfield 13, 3) := by decide +kernel
theorem d_M_begin_103 : decode b_M_begin 103 = .ok (.iload 5, 2) := by decide +kernel
theorem d_M_begin_105 : decode b_M_begin 105 = .ok (.iconst 0, 1) := by decide +kernel
theorem d_M_begin_106 : decode b_M_begin 106 = .ok (.iastore, 1) := by decide +kernel
theorem d_M_begin_107 : decode b_M_begin 107 = .ok (.aload_n 0, 1) := by decide +kernel
theorem d_M_begin_108 : decode b_M_begin 108 = .ok (.getfield 16, 3) := by decide +kernel
theorem d_M_begin_111 : decode b_M_begin 111 = .ok (.iload 5, 2) := by decide +kernel
theorem d_M_begin_113 : decode b_M_begin 113 = .ok (.iconst 0, 1) := by decide +kernel
theorem d_M_begin_114 : decode b_M_begin 114 = .ok (.iastore, 1) := by decide +kernel
theorem d_M_begin_115 : decode b_M_begin 115 = .ok (.iinc 5 1, 3) := by decide +kernel
theorem d_M_begin_118 : decode b_M_begin 118 = .ok (.goto (-34), 3) := by decide +kernel
theorem d_M_begin_121 : decode b_M_begin 121 = .ok (.iconst 0, 1) := by decide +kernel
theorem d_M_begin_122 : decode b_M_begin 122 = .ok (.istore 5, 2) := by decide +kernel
theorem d_M_begin_124 : decode b_M_begin 124 = .ok (.iload 5, 2) := by decide +kernel
theorem d_M_begin_126 : decode b_M_begin 126 = .ok (.bipush 8, 2) := by decide +kernel
theorem d_M_begin_128 : decode b_M_begin 128 = .ok (.if_icmp .ge 41, 3) := by decide +kernel
theorem d_M_begin_131 : decode b_M_begin 131 = .ok (.aload_n 0, 1) := by decide +kernel
theorem d_M_begin_132 : decode b_M_begin 132 = .ok (.getfield 19, 3) := by decide +kernel
theorem d_M_begin_135 : decode b_M_begin 135 = .ok (.iload 5, 2) := by decide +kernel
theorem d_M_begin_137 : decode b_M_begin 137 = .ok (.iconst 0, 1) := by decide +kernel
theorem d_M_begin_138 : decode b_M_begin 138 = .ok (.bastore, 1) := by decide +kernel
theorem d_M_begin_139 : decode b_M_begin 139 = .ok (.aload_n 0, 1) := by decide +kernel
theorem d_M_begin_140 : decode b_M_begin 140 = .ok (.getfield 23, 3) := by decide +kernel
theorem d_M_begin_143 : decode b_M_begin 143 = .ok (.iload 5, 2) := by decide +kernel
theorem d_M_begin_145 : decode b_M_begin 145 = .ok (.iconst 0, 1) := by decide +kernel
theorem d_M_begin_146 : decode b_M_begin 146 = .ok (.bastore, 1) := by decide +kernel
theorem d_M_begin_147 : decode b_M_begin 147 = .ok (.aload_n 0, 1) := by decide +kernel
theorem d_M_begin_148 : decode b_M_begin 148 = .ok (.getfield 26, 3) := by decide +kernel
theorem d_M_begin_151 : decode b_M_begin 151 = .ok (.iload 5, 2) := by decide +kernel
theorem d_M_begin_153 : decode b_M_begin 153 = .ok (.iconst 0, 1) := by decide +kernel
theorem d_M_begin_154 : decode b_M_begin 154 = .ok (.bastore, 1) := by decide +kernel
theorem d_M_begin_155 : decode b_M_begin 155 = .ok (.aload_n 0, 1) := by decide +kernel
theorem d_M_begin_156 : decode b_M_begin 156 = .ok (.getfield 35, 3) := by decide +kernel
theorem d_M_begin_159 : decode b_M_begin 159 = .ok (.iload 5, 2) := by decide +kernel
theorem d_M_begin_161 : decode b_M_begin 161 = .ok (.iconst 0, 1) := by decide +kernel
theorem d_M_begin_162 : decode b_M_begin 162 = .ok (.bastore, 1) := by decide +kernel
theorem d_M_begin_163 : decode b_M_begin 163 = .ok (.iinc 5 1, 3) := by decide +kernel
theorem d_M_begin_166 : decode b_M_begin 166 = .ok (.goto (-42), 3) := by decide +kernel
theorem d_M_begin_169 : decode b_M_begin 169 = .ok (.return_, 1) := by decide +kernel
theorem d_M_coefficient_0 : decode b_M_coefficient 0 = .ok (.aload_n 0, 1) := by decide +kernel
theorem d_M_coefficient_1 : decode b_M_coefficient 1 = .ok (.aload_n 0, 1) := by decide +kernel
theorem d_M_coefficient_2 : decode b_M_coefficient 2 = .ok (.getfield 92, 3) := by decide +kernel
theorem d_M_coefficient_5 : decode b_M_coefficient 5 = .ok (.iconst 1, 1) := by decide +kernel
theorem d_M_coefficient_6 : decode b_M_coefficient 6 = .ok (.if_icmp .eq 7, 3) := by decide +kernel
theorem d_M_coefficient_9 : decode b_M_coefficient 9 = .ok (.iconst 1, 1) := by decide +kernel
theorem d_M_coefficient_10 : decode b_M_coefficient 10 = .ok (.goto 4, 3) := by decide +kernel
theorem d_M_coefficient_13 : decode b_M_coefficient 13 = .ok (.iconst 0, 1) := by decide +kernel
theorem d_M_coefficient_14 : decode b_M_coefficient 14 = .ok (.iload_n 1, 1) := by decide +kernel
theorem d_M_coefficient_15 : decode b_M_coefficient 15 = .ok (.ifCond .lt 11, 3) := by decide +kernel
theorem d_M_coefficient_18 : decode b_M_coefficient 18 = .ok (.iload_n 1, 1) := by decide +kernel
theorem d_M_coefficient_19 : decode b_M_coefficient 19 = .ok (.aload_n 0, 1) := by decide +kernel
theorem d_M_coefficient_20 : decode b_M_coefficient 20 = .ok (.getfield 75, 3) := by decide +kernel
theorem d_M_coefficient_23 : decode b_M_coefficient 23 = .ok (.if_icmp .lt 7, 3) := by decide +kernel
theorem d_M_coefficient_26 : decode b_M_coefficient 26 = .ok (.iconst 1, 1) := by decide +kernel
theorem d_M_coefficient_27 : decode b_M_coefficient 27 = .ok (.goto 4, 3) := by decide +kernel
theorem d_M_coefficient_30 : decode b_M_coefficient 30 = .ok (.iconst 0, 1) := by decide +kernel
theorem d_M_coefficient_31 : decode b_M_coefficient 31 = .ok (.invokevirtual 98, 3) := by decide +kernel
theorem d_M_coefficient_34 : decode b_M_coefficient 34 = .ok (.ifCond .eq 4, 3) := by decide +kernel
theorem d_M_coefficient_37 : decode b_M_coefficient 37 = .ok (.return_, 1) := by decide +kernel
theorem d_M_coefficient_38 : decode b_M_coefficient 38 = .ok (.aload_n 0, 1) := by decide +kernel
theorem d_M_coefficient_39 : decode b_M_coefficient 39 = .ok (.getfield 7, 3) := by decide +kernel
theorem d_M_coefficient_42 : decode b_M_coefficient 42 = .ok (.iload_n 1, 1) := by decide +kernel
theorem d_M_coefficient_43 : decode b_M_coefficient 43 = .ok (.aload_n 0, 1) := by decide +kernel
theorem d_M_coefficient_44 : decode b_M_coefficient 44 = .ok (.iload_n 2, 1) := by decide +kernel
theorem d_M_coefficient_45 : decode b_M_coefficient 45 = .ok (.invokevirtual 102, 3) := by decide +kernel
theorem d_M_coefficient_48 : decode b_M_coefficient 48 = .ok (.iastore, 1) := by decide +kernel
theorem d_M_coefficient_49 : decode b_M_coefficient 49 = .ok (.aload_n 0, 1) := by decide +kernel
theorem d_M_coefficient_50 : decode b_M_coefficient 50 = .ok (.getfield 13, 3) := by decide +kernel
theorem d_M_coefficient_53 : decode b_M_coefficient 53 = .ok (.iload_n 1, 1) := by decide +kernel
theorem d_M_coefficient_54 : decode b_M_coefficient 54 = .ok (.aload_n 0, 1) := by decide +kernel
theorem d_M_coefficient_55 : decode b_M_coefficient 55 = .ok (.getfield 88, 3) := by decide +kernel
theorem d_M_coefficient_58 : decode b_M_coefficient 58 = .ok (.ifCond .eq 11, 3) := by decide +kernel
theorem d_M_coefficient_61 : decode b_M_coefficient 61 = .ok (.aload_n 0, 1) := by decide +kernel
theorem d_M_coefficient_62 : decode b_M_coefficient 62 = .ok (.iload_n 3, 1) := by decide +kernel
theorem d_M_coefficient_63 : decode b_M_coefficient 63 = .ok (.invokevirtual 102, 3) := by decide +kernel
theorem d_M_coefficient_66 : decode b_M_coefficient 66 = .ok (.goto 4, 3) := by decide +kernel
theorem d_M_coefficient_69 : decode b_M_coefficient 69 = .ok (.iconst 0, 1) := by decide +kernel
theorem d_M_coefficient_70 : decode b_M_coefficient 70 = .ok (.iastore, 1) := by decide +kernel
theorem d_M_coefficient_71 : decode b_M_coefficient 71 = .ok (.return_, 1) := by decide +kernel
theorem d_M_deal_0 : decode b_M_deal 0 = .ok (.iconst 0, 1) := by decide +kernel
theorem d_M_deal_1 : decode b_M_deal 1 = .ok (.istore_n 1, 1) := by decide +kernel
theorem d_M_deal_2 : decode b_M_deal 2 = .ok (.iload_n 1, 1) := by decide +kernel
theorem d_M_deal_3 : decode b_M_deal 3 = .ok (.aload_n 0, 1) := by decide +kernel
theorem d_M_deal_4 : decode b_M_deal 4 = .ok (.getfield 75, 3) := by decide +kernel
theorem d_M_deal_7 : decode b_M_deal 7 = .ok (.if_icmp .ge 31, 3) := by decide +kernel
theorem d_M_deal_10 : decode b_M_deal 10 = .ok (.aload_n 0, 1) := by decide +kernel
theorem d_M_deal_11 : decode b_M_deal 11 = .ok (.getfield 16, 3) := by decide +kernel
theorem d_M_deal_14 : decode b_M_deal 14 = .ok (.iload_n 1, 1) := by decide +kernel
theorem d_M_deal_15 : decode b_M_deal 15 = .ok (.aload_n 0, 1) := by decide +kernel
theorem d_M_deal_16 : decode b_M_deal 16 = .ok (.aload_n 0, 1) := by decide +kernel
theorem d_M_deal_17 : decode b_M_deal 17 = .ok (.getfield 7, 3) := by decide +kernel
theorem d_M_deal_20 : decode b_M_deal 20 = .ok (.iload_n 1, 1) := by decide +kernel
theorem d_M_deal_21 : decode b_M_deal 21 = .ok (.iaload, 1) := by decide +kernel
theorem d_M_deal_22 : decode b_M_deal 22 = .ok (.aload_n 0, 1) := by decide +kernel
theorem d_M_deal_23 : decode b_M_deal 23 = .ok (.getfield 13, 3) := by decide +kernel
theorem d_M_deal_26 : decode b_M_deal 26 = .ok (.iload_n 1, 1) := by decide +kernel
theorem d_M_deal_27 : decode b_M_deal 27 = .ok (.iaload, 1) := by decide +kernel
theorem d_M_deal_28 : decode b_M_deal 28 = .ok (.invokevirtual 78, 3) := by decide +kernel
theorem d_M_deal_31 : decode b_M_deal 31 = .ok (.iastore, 1) := by decide +kernel
theorem d_M_deal_32 : decode b_M_deal 32 = .ok (.iinc 1 1, 3) := by decide +kernel
theorem d_M_deal_35 : decode b_M_deal 35 = .ok (.goto (-33), 3) := by decide +kernel
theorem d_M_deal_38 : decode b_M_deal 38 = .ok (.iconst 1, 1) := by decide +kernel
theorem d_M_deal_39 : decode b_M_deal 39 = .ok (.istore_n 1, 1) := by decide +kernel
theorem d_M_deal_40 : decode b_M_deal 40 = .ok (.iload_n 1, 1) := by decide +kernel
theorem d_M_deal_41 : decode b_M_deal 41 = .ok (.aload_n 0, 1) := by decide +kernel
theorem d_M_deal_42 : decode b_M_deal 42 = .ok (.getfield 82, 3) := by decide +kernel
theorem d_M_deal_45 : decode b_M_deal 45 = .ok (.if_icmp .gt 39, 3) := by decide +kernel
theorem d_M_deal_48 : decode b_M_deal 48 = .ok (.aload_n 0, 1) := by decide +kernel
theorem d_M_deal_49 : decode b_M_deal 49 = .ok (.getfield 29, 3) := by decide +kernel
theorem d_M_deal_52 : decode b_M_deal 52 = .ok (.iload_n 1, 1) := by decide +kernel
theorem d_M_deal_53 : decode b_M_deal 53 = .ok (.aload_n 0, 1) := by decide +kernel
theorem d_M_deal_54 : decode b_M_deal 54 = .ok (.aload_n 0, 1) := by decide +kernel
theorem d_M_deal_55 : decode b_M_deal 55 = .ok (.getfield 7, 3) := by decide +kernel
theorem d_M_deal_58 : decode b_M_deal 58 = .ok (.iload_n 1, 1) := by decide +kernel
theorem d_M_deal_59 : decode b_M_deal 59 = .ok (.invokevirtual 106, 3) := by decide +kernel
theorem d_M_deal_62 : decode b_M_deal 62 = .ok (.iastore, 1) := by decide +kernel
theorem d_M_deal_63 : decode b_M_deal 63 = .ok (.aload_n 0, 1) := by decide +kernel
theorem d_M_deal_64 : decode b_M_deal 64 = .ok (.getfield 32, 3) := by decide +kernel
theorem d_M_deal_67 : decode b_M_deal 67 = .ok (.iload_n 1, 1) := by decide +kernel
theorem d_M_deal_68 : decode b_M_deal 68 = .ok (.aload_n 0, 1) := by decide +kernel
theorem d_M_deal_69 : decode b_M_deal 69 = .ok (.aload_n 0, 1) := by decide +kernel
theorem d_M_deal_70 : decode b_M_deal 70 = .ok (.getfield 13, 3) := by decide +kernel
theorem d_M_deal_73 : decode b_M_deal 73 = .ok (.iload_n 1, 1) := by decide +kernel
theorem d_M_deal_74 : decode b_M_deal 74 = .ok (.invokevirtual 106, 3) := by decide +kernel
theorem d_M_deal_77 : decode b_M_deal 77 = .ok (.iastore, 1) := by decide +kernel
theorem d_M_deal_78 : decode b_M_deal 78 = .ok (.iinc 1 1, 3) := by decide +kernel
theorem d_M_deal_81 : decode b_M_deal 81 = .ok (.goto (-41), 3) := by decide +kernel
theorem d_M_deal_84 : decode b_M_deal 84 = .ok (.return_, 1) := by decide +kernel
theorem d_M_advance_0 : decode b_M_advance 0 = .ok (.aload_n 0, 1) := by decide +kernel
theorem d_M_advance_1 : decode b_M_advance 1 = .ok (.aload_n 0, 1) := by decide +kernel
theorem d_M_advance_2 : decode b_M_advance 2 = .ok (.getfield 92, 3) := by decide +kernel
theorem d_M_advance_5 : decode b_M_advance 5 = .ok (.ifCond .eq 11, 3) := by decide +kernel
theorem d_M_advance_8 : decode b_M_advance 8 = .ok (.aload_n 0, 1) := by decide +kernel
theorem d_M_advance_9 : decode b_M_advance 9 = .ok (.getfield 92, 3) := by decide +kernel
theorem d_M_advance_12 : decode b_M_advance 12 = .ok (.iconst 5, 1) := by decide +kernel
theorem d_M_advance_13 : decode b_M_advance 13 = .ok (.if_icmp .lt 7, 3) := by decide +kernel
theorem d_M_advance_16 : decode b_M_advance 16 = .ok (.iconst 1, 1) := by decide +kernel
theorem d_M_advance_17 : decode b_M_advance 17 = .ok (.goto 4, 3) := by decide +kernel
theorem d_M_advance_20 : decode b_M_advance 20 = .ok (.iconst 0, 1) := by decide +kernel
theorem d_M_advance_21 : decode b_M_advance 21 = .ok (.iconst 0, 1) := by decide +kernel
theorem d_M_advance_22 : decode b_M_advance 22 = .ok (.invokevirtual 98, 3) := by decide +kernel
theorem d_M_advance_25 : decode b_M_advance 25 = .ok (.ifCond .eq 5, 3) := by decide +kernel
theorem d_M_advance_28 : decode b_M_advance 28 = .ok (.iconst 0, 1) := by decide +kernel
theorem d_M_advance_29 : decode b_M_advance 29 = .ok (.ireturn, 1) := by decide +kernel
theorem d_M_advance_30 : decode b_M_advance 30 = .ok (.iconst 0, 1) := by decide +kernel
theorem d_M_advance_31 : decode b_M_advance 31 = .ok (.istore_n 1, 1) := by decide +kernel
theorem d_M_advance_32 : decode b_M_advance 32 = .ok (.iconst 1, 1) := by decide +kernel
theorem d_M_advance_33 : decode b_M_advance 33 = .ok (.istore_n 2, 1) := by decide +kernel
theorem d_M_advance_34 : decode b_M_advance 34 = .ok (.iconst 1, 1) := by decide +kernel
theorem d_M_advance_35 : decode b_M_advance 35 = .ok (.istore_n 3, 1) := by decide +kernel
theorem d_M_advance_36 : decode b_M_advance 36 = .ok (.iload_n 3, 1) := by decide +kernel
theorem d_M_advance_37 : decode b_M_advance 37 = .ok (.aload_n 0, 1) := by decide +kernel
theorem d_M_advance_38 : decode b_M_advance 38 = .ok (.getfield 82, 3) := by decide +kernel
theorem d_M_advance_41 : decode b_M_advance 41 = .ok (.if_icmp .gt 74, 3) := by decide +kernel
theorem d_M_advance_44 : decode b_M_advance 44 = .ok (.aload_n 0, 1) := by decide +kernel
theorem d_M_advance_45 : decode b_M_advance 45 = .ok (.getfield 23, 3) := by decide +kernel
theorem d_M_advance_48 : decode b_M_advance 48 = .ok (.iload_n 3, 1) := by decide +kernel
theorem d_M_advance_49 : decode b_M_advance 49 = .ok (.baload, 1) := by decide +kernel
theorem d_M_advance_50 : decode b_M_advance 50 = .ok (.ifCond .eq 9, 3) := by decide +kernel
theorem d_M_advance_53 : decode b_M_advance 53 = .ok (.iload_n 1, 1) := by decide +kernel
theorem d_M_advance_54 : decode b_M_advance 54 = .ok (.iconst 1, 1) := by decide +kernel
theorem d_M_advance_55 : decode b_M_advance 55 = .ok (.iadd, 1) := by decide +kernel
theorem d_M_advance_56 : decode b_M_advance 56 = .ok (.goto 4, 3) := by decide +kernel
theorem d_M_advance_59 : decode b_M_advance 59 = .ok (.iload_n 1, 1) := by decide +kernel
theorem d_M_advance_60 : decode b_M_advance 60 = .ok (.istore_n 1, 1) := by decide +kernel
theorem d_M_advance_61 : decode b_M_advance 61 = .ok (.iload_n 2, 1) := by decide +kernel
theorem d_M_advance_62 : decode b_M_advance 62 = .ok (.ifCond .eq 45, 3) := by decide +kernel
theorem d_M_advance_65 : decode b_M_advance 65 = .ok (.aload_n 0, 1) := by decide +kernel
theorem d_M_advance_66 : decode b_M_advance 66 = .ok (.getfield 23, 3) := by decide +kernel
theorem d_M_advance_69 : decode b_M_advance 69 = .ok (.iload_n 3, 1) := by decide +kernel
theorem d_M_advance_70 : decode b_M_advance 70 = .ok (.baload, 1) := by decide +kernel
theorem d_M_advance_71 : decode b_M_advance 71 = .ok (.ifCond .eq 32, 3) := by decide +kernel
theorem d_M_advance_74 : decode b_M_advance 74 = .ok (.aload_n 0, 1) := by decide +kernel
theorem d_M_advance_75 : decode b_M_advance 75 = .ok (.getfield 26, 3) := by decide +kernel
theorem d_M_advance_78 : decode b_M_advance 78 = .ok (.iload_n 3, 1) := by decide +kernel
theorem d_M_advance_79 : decode b_M_advance 79 = .ok (.baload, 1) := by decide +kernel
theorem d_M_advance_80 : decode b_M_advance 80 = .ok (.ifCond .eq 27, 3) := by decide +kernel
theorem d_M_advance_83 : decode b_M_advance 83 = .ok (.aload_n 0, 1) := by decide +kernel
theorem d_M_advance_84 : decode b_M_advance 84 = .ok (.iload_n 3, 1) := by decide +kernel
theorem d_M_advance_85 : decode b_M_advance 85 = .ok (.aload_n 0, 1) := by decide +kernel
theorem d_M_advance_86 : decode b_M_advance 86 = .ok (.getfield 29, 3) := by decide +kernel
theorem d_M_advance_89 : decode b_M_advance 89 = .ok (.iload_n 3, 1) := by decide +kernel
theorem d_M_advance_90 : decode b_M_advance 90 = .ok (.iaload, 1) := by decide +kernel
theorem d_M_advance_91 : decode b_M_advance 91 = .ok (.aload_n 0, 1) := by decide +kernel
theorem d_M_advance_92 : decode b_M_advance 92 = .ok (.getfield 32, 3) := by decide +kernel
theorem d_M_advance_95 : decode b_M_advance 95 = .ok (.iload_n 3, 1) := by decide +kernel
theorem d_M_advance_96 : decode b_M_advance 96 = .ok (.iaload, 1) := by decide +kernel
theorem d_M_advance_97 : decode b_M_advance 97 = .ok (.invokevirtual 110, 3) := by decide +kernel
theorem d_M_advance_100 : decode b_M_advance 100 = .ok (.ifCond .eq 7, 3) := by decide +kernel
theorem d_M_advance_103 : decode b_M_advance 103 = .ok (.iconst 1, 1) := by decide +kernel
theorem d_M_advance_104 : decode b_M_advance 104 = .ok (.goto 4, 3) := by decide +kernel
theorem d_M_advance_107 : decode b_M_advance 107 = .ok (.iconst 0, 1) := by decide +kernel
theorem d_M_advance_108 : decode b_M_advance 108 = .ok (.istore_n 2, 1) := by decide +kernel
theorem d_M_advance_109 : decode b_M_advance 109 = .ok (.iinc 3 1, 3) := by decide +kernel
theorem d_M_advance_112 : decode b_M_advance 112 = .ok (.goto (-76), 3) := by decide +kernel
theorem d_M_advance_115 : decode b_M_advance 115 = .ok (.aload_n 0, 1) := by decide +kernel
theorem d_M_advance_116 : decode b_M_advance 116 = .ok (.getfield 92, 3) := by decide +kernel
theorem d_M_advance_119 : decode b_M_advance 119 = .ok (.iconst 1, 1) := by decide +kernel
theorem d_M_advance_120 : decode b_M_advance 120 = .ok (.if_icmp .ne 7, 3) := by decide +kernel
theorem d_M_advance_123 : decode b_M_advance 123 = .ok (.aload_n 0, 1) := by decide +kernel
theorem d_M_advance_124 : decode b_M_advance 124 = .ok (.invokevirtual 114, 3) := by decide +kernel
theorem d_M_advance_127 : decode b_M_advance 127 = .ok (.aload_n 0, 1) := by decide +kernel
theorem d_M_advance_128 : decode b_M_advance 128 = .ok (.getfield 92, 3) := by decide +kernel
theorem d_M_advance_131 : decode b_M_advance 131 = .ok (.iconst 2, 1) := by decide +kernel
theorem d_M_advance_132 : decode b_M_advance 132 = .ok (.if_icmp .ne 59, 3) := by decide +kernel
theorem d_M_advance_135 : decode b_M_advance 135 = .ok (.iconst 1, 1) := by decide +kernel
theorem d_M_advance_136 : decode b_M_advance 136 = .ok (.istore_n 3, 1) := by decide +kernel
theorem d_M_advance_137 : decode b_M_advance 137 = .ok (.iload_n 3, 1) := by decide +kernel
theorem d_M_advance_138 : decode b_M_advance 138 = .ok (.aload_n 0, 1) := by decide +kernel
theorem d_M_advance_139 : decode b_M_advance 139 = .ok (.getfield 82, 3) := by decide +kernel
theorem d_M_advance_142 : decode b_M_advance 142 = .ok (.if_icmp .gt 49, 3) := by decide +kernel
theorem d_M_advance_145 : decode b_M_advance 145 = .ok (.aload_n 0, 1) := by decide +kernel
theorem d_M_advance_146 : decode b_M_advance 146 = .ok (.getfield 23, 3) := by decide +kernel
theorem d_M_advance_149 : decode b_M_advance 149 = .ok (.iload_n 3, 1) := by decide +kernel
theorem d_M_advance_150 : decode b_M_advance 150 = .ok (.aload_n 0, 1) := by decide +kernel
theorem d_M_advance_151 : decode b_M_advance 151 = .ok (.getfield 19, 3) := by decide +kernel
theorem d_M_advance_154 : decode b_M_advance 154 = .ok (.iload_n 3, 1) := by decide +kernel
theorem d_M_advance_155 : decode b_M_advance 155 = .ok (.baload, 1) := by decide +kernel
theorem d_M_advance_156 : decode b_M_advance 156 = .ok (.ifCond .ne 27, 3) := by decide +kernel
theorem d_M_advance_159 : decode b_M_advance 159 = .ok (.aload_n 0, 1) := by decide +kernel
theorem d_M_advance_160 : decode b_M_advance 160 = .ok (.iload_n 3, 1) := by decide +kernel
theorem d_M_advance_161 : decode b_M_advance 161 = .ok (.aload_n 0, 1) := by decide +kernel
theorem d_M_advance_162 : decode b_M_advance 162 = .ok (.getfield 29, 3) := by decide +kernel
theorem d_M_advance_165 : decode b_M_advance 165 = .ok (.iload_n 3, 1) := by decide +kernel
theorem d_M_advance_166 : decode b_M_advance 166 = .ok (.iaload, 1) := by decide +kernel
theorem d_M_advance_167 : decode b_M_advance 167 = .ok (.aload_n 0, 1) := by decide +kernel
theorem d_M_advance_168 : decode b_M_advance 168 = .ok (.getfield 32, 3) := by decide +kernel
theorem d_M_advance_171 : decode b_M_advance 171 = .ok (.iload_n 3, 1) := by decide +kernel
theorem d_M_advance_172 : decode b_M_advance 172 = .ok (.iaload, 1) := by decide +kernel
theorem d_M_advance_173 : decode b_M_advance 173 = .ok (.invokevirtual 110, 3) := by decide +kernel
theorem d_M_advance_176 : decode b_M_advance 176 = .ok (.ifCond .ne 7, 3) := by decide +kernel
theorem d_M_advance_179 : decode b_M_advance 179 = .ok (.iconst 1, 1) := by decide +kernel
theorem d_M_advance_180 : decode b_M_advance 180 = .ok (.goto 4, 3) := by decide +kernel
theorem d_M_advance_183 : decode b_M_advance 183 = .ok (.iconst 0, 1) := by decide +kernel
theorem d_M_advance_184 : decode b_M_advance 184 = .ok (.bastore, 1) := by decide +kernel
theorem d_M_advance_185 : decode b_M_advance 185 = .ok (.iinc 3 1, 3) := by decide +kernel
theorem d_M_advance_188 : decode b_M_advance 188 = .ok (.goto (-51), 3) := by decide +kernel
theorem d_M_advance_191 : decode b_M_advance 191 = .ok (.aload_n 0, 1) := by decide +kernel
theorem d_M_advance_192 : decode b_M_advance 192 = .ok (.getfield 92, 3) := by decide +kernel
theorem d_M_advance_195 : decode b_M_advance 195 = .ok (.iconst 3, 1) := by decide +kernel
theorem d_M_advance_196 : decode b_M_advance 196 = .ok (.if_icmp .ne 11, 3) := by decide +kernel
theorem d_M_advance_199 : decode b_M_advance 199 = .ok (.iload_n 1, 1) := by decide +kernel
theorem d_M_advance_200 : decode b_M_advance 200 = .ok (.aload_n 0, 1) := by decide +kernel
theorem d_M_advance_201 : decode b_M_advance 201 = .ok (.getfield 75, 3) := by decide +kernel
theorem d_M_advance_204 : decode b_M_advance 204 = .ok (.if_icmp .ge 15, 3) := by decide +kernel
theorem d_M_advance_207 : decode b_M_advance 207 = .ok (.aload_n 0, 1) := by decide +kernel
theorem d_M_advance_208 : decode b_M_advance 208 = .ok (.getfield 92, 3) := by decide +kernel
theorem d_M_advance_211 : decode b_M_advance 211 = .ok (.iconst 4, 1) := by decide +kernel
theorem d_M_advance_212 : decode b_M_advance 212 = .ok (.if_icmp .ne 11, 3) := by decide +kernel
theorem d_M_advance_215 : decode b_M_advance 215 = .ok (.iload_n 2, 1) := by decide +kernel
theorem d_M_advance_216 : decode b_M_advance 216 = .ok (.ifCond .ne 7, 3) := by decide +kernel
theorem d_M_advance_219 : decode b_M_advance 219 = .ok (.iconst 1, 1) := by decide +kernel
theorem d_M_advance_220 : decode b_M_advance 220 = .ok (.goto 4, 3) := by decide +kernel
theorem d_M_advance_223 : decode b_M_advance 223 = .ok (.iconst 0, 1) := by decide +kernel
theorem d_M_advance_224 : decode b_M_advance 224 = .ok (.istore_n 3, 1) := by decide +kernel
theorem d_M_advance_225 : decode b_M_advance 225 = .ok (.aload_n 0, 1) := by decide +kernel
theorem d_M_advance_226 : decode b_M_advance 226 = .ok (.iload_n 3, 1) := by decide +kernel
theorem d_M_advance_227 : decode b_M_advance 227 = .ok (.ifCond .eq 8, 3) := by decide +kernel
theorem d_M_advance_230 : decode b_M_advance 230 = .ok (.bipush 6, 2) := by decide +kernel
theorem d_M_advance_232 : decode b_M_advance 232 = .ok (.goto 9, 3) := by decide +kernel
theorem d_M_advance_235 : decode b_M_advance 235 = .ok (.aload_n 0, 1) := by decide +kernel
theorem d_M_advance_236 : decode b_M_advance 236 = .ok (.getfield 92, 3) := by decide +kernel
theorem d_M_advance_239 : decode b_M_advance 239 = .ok (.iconst 1, 1) := by decide +kernel
theorem d_M_advance_240 : decode b_M_advance 240 = .ok (.iadd, 1) := by decide +kernel
theorem d_M_advance_241 : decode b_M_advance 241 = .ok (.putfield 92, 3) := by decide +kernel
theorem d_M_advance_244 : decode b_M_advance 244 = .ok (.aload_n 0, 1) := by decide +kernel
theorem d_M_advance_245 : decode b_M_advance 245 = .ok (.getfield 92, 3) := by decide +kernel
theorem d_M_advance_248 : decode b_M_advance 248 = .ok (.ireturn, 1) := by decide +kernel
theorem d_M_tamper_0 : decode b_M_tamper 0 = .ok (.aload_n 0, 1) := by decide +kernel
theorem d_M_tamper_1 : decode b_M_tamper 1 = .ok (.aload_n 0, 1) := by decide +kernel
theorem d_M_tamper_2 : decode b_M_tamper 2 = .ok (.getfield 92, 3) := by decide +kernel
theorem d_M_tamper_5 : decode b_M_tamper 5 = .ok (.iconst 2, 1) := by decide +kernel
theorem d_M_tamper_6 : decode b_M_tamper 6 = .ok (.if_icmp .eq 7, 3) := by decide +kernel
theorem d_M_tamper_9 : decode b_M_tamper 9 = .ok (.iconst 1, 1) := by decide +kernel
theorem d_M_tamper_10 : decode b_M_tamper 10 = .ok (.goto 4, 3) := by decide +kernel
theorem d_M_tamper_13 : decode b_M_tamper 13 = .ok (.iconst 0, 1) := by decide +kernel
theorem d_M_tamper_14 : decode b_M_tamper 14 = .ok (.aload_n 0, 1) := by decide +kernel
theorem d_M_tamper_15 : decode b_M_tamper 15 = .ok (.iload_n 1, 1) := by decide +kernel
theorem d_M_tamper_16 : decode b_M_tamper 16 = .ok (.invokevirtual 117, 3) := by decide +kernel
theorem d_M_tamper_19 : decode b_M_tamper 19 = .ok (.ifCond .ne 7, 3) := by decide +kernel
theorem d_M_tamper_22 : decode b_M_tamper 22 = .ok (.iconst 1, 1) := by decide +kernel
theorem d_M_tamper_23 : decode b_M_tamper 23 = .ok (.goto 4, 3) := by decide +kernel
theorem d_M_tamper_26 : decode b_M_tamper 26 = .ok (.iconst 0, 1) := by decide +kernel
theorem d_M_tamper_27 : decode b_M_tamper 27 = .ok (.invokevirtual 98, 3) := by decide +kernel
theorem d_M_tamper_30 : decode b_M_tamper 30 = .ok (.ifCond .eq 4, 3) := by decide +kernel
theorem d_M_tamper_33 : decode b_M_tamper 33 = .ok (.return_, 1) := by decide +kernel
theorem d_M_tamper_34 : decode b_M_tamper 34 = .ok (.aload_n 0, 1) := by decide +kernel
theorem d_M_tamper_35 : decode b_M_tamper 35 = .ok (.getfield 29, 3) := by decide +kernel
theorem d_M_tamper_38 : decode b_M_tamper 38 = .ok (.iload_n 1, 1) := by decide +kernel
theorem d_M_tamper_39 : decode b_M_tamper 39 = .ok (.aload_n 0, 1) := by decide +kernel
theorem d_M_tamper_40 : decode b_M_tamper 40 = .ok (.iload_n 2, 1) := by decide +kernel
theorem d_M_tamper_41 : decode b_M_tamper 41 = .ok (.invokevirtual 102, 3) := by decide +kernel
theorem d_M_tamper_44 : decode b_M_tamper 44 = .ok (.iastore, 1) := by decide +kernel
theorem d_M_tamper_45 : decode b_M_tamper 45 = .ok (.aload_n 0, 1) := by decide +kernel
theorem d_M_tamper_46 : decode b_M_tamper 46 = .ok (.getfield 32, 3) := by decide +kernel
theorem d_M_tamper_49 : decode b_M_tamper 49 = .ok (.iload_n 1, 1) := by decide +kernel
theorem d_M_tamper_50 : decode b_M_tamper 50 = .ok (.aload_n 0, 1) := by decide +kernel
theorem d_M_tamper_51 : decode b_M_tamper 51 = .ok (.getfield 88, 3) := by decide +kernel
theorem d_M_tamper_54 : decode b_M_tamper 54 = .ok (.ifCond .eq 11, 3) := by decide +kernel
theorem d_M_tamper_57 : decode b_M_tamper 57 = .ok (.aload_n 0, 1) := by decide +kernel
theorem d_M_tamper_58 : decode b_M_tamper 58 = .ok (.iload_n 3, 1) := by decide +kernel
theorem d_M_tamper_59 : decode b_M_tamper 59 = .ok (.invokevirtual 102, 3) := by decide +kernel
theorem d_M_tamper_62 : decode b_M_tamper 62 = .ok (.goto 4, 3) := by decide +kernel
theorem d_M_tamper_65 : decode b_M_tamper 65 = .ok (.iconst 0, 1) := by decide +kernel
theorem d_M_tamper_66 : decode b_M_tamper 66 = .ok (.iastore, 1) := by decide +kernel
theorem d_M_tamper_67 : decode b_M_tamper 67 = .ok (.return_, 1) := by decide +kernel
theorem d_M_forge_0 : decode b_M_forge 0 = .ok (.aload_n 0, 1) := by decide +kernel
theorem d_M_forge_1 : decode b_M_forge 1 = .ok (.aload_n 0, 1) := by decide +kernel
theorem d_M_forge_2 : decode b_M_forge 2 = .ok (.getfield 92, 3) := by decide +kernel
theorem d_M_forge_5 : decode b_M_forge 5 = .ok (.iconst 2, 1) := by decide +kernel
theorem d_M_forge_6 : decode b_M_forge 6 = .ok (.if_icmp .eq 7, 3) := by decide +kernel
theorem d_M_forge_9 : decode b_M_forge 9 = .ok (.iconst 1, 1) := by decide +kernel
theorem d_M_forge_10 : decode b_M_forge 10 = .ok (.goto 4, 3) := by decide +kernel
theorem d_M_forge_13 : decode b_M_forge 13 = .ok (.iconst 0, 1) := by decide +kernel
theorem d_M_forge_14 : decode b_M_forge 14 = .ok (.iload_n 1, 1) := by decide +kernel
theorem d_M_forge_15 : decode b_M_forge 15 = .ok (.ifCond .lt 24, 3) := by decide +kernel
theorem d_M_forge_18 : decode b_M_forge 18 = .ok (.iload_n 1, 1) := by decide +kernel
theorem d_M_forge_19 : decode b_M_forge 19 = .ok (.aload_n 0, 1) := by decide +kernel
theorem d_M_forge_20 : decode b_M_forge 20 = .ok (.getfield 75, 3) := by decide +kernel
theorem d_M_forge_23 : decode b_M_forge 23 = .ok (.if_icmp .ge 16, 3) := by decide +kernel
theorem d_M_forge_26 : decode b_M_forge 26 = .ok (.iload_n 2, 1) := by decide +kernel
theorem d_M_forge_27 : decode b_M_forge 27 = .ok (.iconst 1, 1) := by decide +kernel
theorem d_M_forge_28 : decode b_M_forge 28 = .ok (.if_icmp .lt 11, 3) := by decide +kernel
theorem d_M_forge_31 : decode b_M_forge 31 = .ok (.iload_n 2, 1) := by decide +kernel
theorem d_M_forge_32 : decode b_M_forge 32 = .ok (.aload_n 0, 1) := by decide +kernel
theorem d_M_forge_33 : decode b_M_forge 33 = .ok (.getfield 58, 3) := by decide +kernel
theorem d_M_forge_36 : decode b_M_forge 36 = .ok (.if_icmp .lt 7, 3) := by decide +kernel
theorem d_M_forge_39 : decode b_M_forge 39 = .ok (.iconst 1, 1) := by decide +kernel
theorem d_M_forge_40 : decode b_M_forge 40 = .ok (.goto 4, 3) := by decide +kernel
theorem d_M_forge_43 : decode b_M_forge 43 = .ok (.iconst 0, 1) := by decide +kernel
theorem d_M_forge_44 : decode b_M_forge 44 = .ok (.invokevirtual 98, 3) := by decide +kernel
theorem d_M_forge_47 : decode b_M_forge 47 = .ok (.ifCond .eq 4, 3) := by decide +kernel
theorem d_M_forge_50 : decode b_M_forge 50 = .ok (.return_, 1) := by decide +kernel
theorem d_M_forge_51 : decode b_M_forge 51 = .ok (.aload_n 0, 1) := by decide +kernel
theorem d_M_forge_52 : decode b_M_forge 52 = .ok (.getfield 16, 3) := by decide +kernel
theorem d_M_forge_55 : decode b_M_forge 55 = .ok (.iload_n 1, 1) := by decide +kernel
theorem d_M_forge_56 : decode b_M_forge 56 = .ok (.iload_n 2, 1) := by decide +kernel
theorem d_M_forge_57 : decode b_M_forge 57 = .ok (.iastore, 1) := by decide +kernel
theorem d_M_forge_58 : decode b_M_forge 58 = .ok (.return_, 1) := by decide +kernel
theorem d_M_corrupt_0 : decode b_M_corrupt 0 = .ok (.aload_n 0, 1) := by decide +kernel
theorem d_M_corrupt_1 : decode b_M_corrupt 1 = .ok (.aload_n 0, 1) := by decide +kernel
theorem d_M_corrupt_2 : decode b_M_corrupt 2 = .ok (.getfield 92, 3) := by decide +kernel
theorem d_M_corrupt_5 : decode b_M_corrupt 5 = .ok (.iconst 1, 1) := by decide +kernel
theorem d_M_corrupt_6 : decode b_M_corrupt 6 = .ok (.if_icmp .eq 15, 3) := by decide +kernel
theorem d_M_corrupt_9 : decode b_M_corrupt 9 = .ok (.aload_n 0, 1) := by decide +kernel
theorem d_M_corrupt_10 : decode b_M_corrupt 10 = .ok (.getfield 92, 3) := by decide +kernel
theorem d_M_corrupt_13 : decode b_M_corrupt 13 = .ok (.iconst 2, 1) := by decide +kernel
theorem d_M_corrupt_14 : decode b_M_corrupt 14 = .ok (.if_icmp .eq 7, 3) := by decide +kernel
theorem d_M_corrupt_17 : decode b_M_corrupt 17 = .ok (.iconst 1, 1) := by decide +kernel
theorem d_M_corrupt_18 : decode b_M_corrupt 18 = .ok (.goto 4, 3) := by decide +kernel
theorem d_M_corrupt_21 : decode b_M_corrupt 21 = .ok (.iconst 0, 1) := by decide +kernel
theorem d_M_corrupt_22 : decode b_M_corrupt 22 = .ok (.aload_n 0, 1) := by decide +kernel
theorem d_M_corrupt_23 : decode b_M_corrupt 23 = .ok (.iload_n 1, 1) := by decide +kernel
theorem d_M_corrupt_24 : decode b_M_corrupt 24 = .ok (.invokevirtual 117, 3) := by decide +kernel
theorem d_M_corrupt_27 : decode b_M_corrupt 27 = .ok (.ifCond .ne 7, 3) := by decide +kernel
theorem d_M_corrupt_30 : decode b_M_corrupt 30 = .ok (.iconst 1, 1) := by decide +kernel
theorem d_M_corrupt_31 : decode b_M_corrupt 31 = .ok (.goto 4, 3) := by decide +kernel
theorem d_M_corrupt_34 : decode b_M_corrupt 34 = .ok (.iconst 0, 1) := by decide +kernel
theorem d_M_corrupt_35 : decode b_M_corrupt 35 = .ok (.invokevirtual 98, 3) := by decide +kernel
theorem d_M_corrupt_38 : decode b_M_corrupt 38 = .ok (.ifCond .ne 12, 3) := by decide +kernel
theorem d_M_corrupt_41 : decode b_M_corrupt 41 = .ok (.aload_n 0, 1) := by decide +kernel
theorem d_M_corrupt_42 : decode b_M_corrupt 42 = .ok (.getfield 19, 3) := by decide +kernel
theorem d_M_corrupt_45 : decode b_M_corrupt 45 = .ok (.iload_n 1, 1) := by decide +kernel
theorem d_M_corrupt_46 : decode b_M_corrupt 46 = .ok (.baload, 1) := by decide +kernel
theorem d_M_corrupt_47 : decode b_M_corrupt 47 = .ok (.ifCond .eq 5, 3) := by decide +kernel
theorem d_M_corrupt_50 : decode b_M_corrupt 50 = .ok (.iconst 0, 1) := by decide +kernel
theorem d_M_corrupt_51 : decode b_M_corrupt 51 = .ok (.ireturn, 1) := by decide +kernel
theorem d_M_corrupt_52 : decode b_M_corrupt 52 = .ok (.aload_n 0, 1) := by decide +kernel
theorem d_M_corrupt_53 : decode b_M_corrupt 53 = .ok (.getfield 19, 3) := by decide +kernel
theorem d_M_corrupt_56 : decode b_M_corrupt 56 = .ok (.iload_n 1, 1) := by decide +kernel
theorem d_M_corrupt_57 : decode b_M_corrupt 57 = .ok (.iconst 1, 1) := by decide +kernel
theorem d_M_corrupt_58 : decode b_M_corrupt 58 = .ok (.bastore, 1) := by decide +kernel
theorem d_M_corrupt_59 : decode b_M_corrupt 59 = .ok (.iconst 1, 1) := by decide +kernel
theorem d_M_corrupt_60 : decode b_M_corrupt 60 = .ok (.ireturn, 1) := by decide +kernel
theorem d_M_accuse_0 : decode b_M_accuse 0 = .ok (.aload_n 0, 1) := by decide +kernel
theorem d_M_accuse_1 : decode b_M_accuse 1 = .ok (.aload_n 0, 1) := by decide +kernel
theorem d_M_accuse_2 : decode b_M_accuse 2 = .ok (.getfield 92, 3) := by decide +kernel
theorem d_M_accuse_5 : decode b_M_accuse 5 = .ok (.iconst 3, 1) := by decide +kernel
theorem d_M_accuse_6 : decode b_M_accuse 6 = .ok (.if_icmp .eq 7, 3) := by decide +kernel
theorem d_M_accuse_9 : decode b_M_accuse 9 = .ok (.iconst 1, 1) := by decide +kernel
theorem d_M_accuse_10 : decode b_M_accuse 10 = .ok (.goto 4, 3) := by decide +kernel
theorem d_M_accuse_13 : decode b_M_accuse 13 = .ok (.iconst 0, 1) := by decide +kernel
theorem d_M_accuse_14 : decode b_M_accuse 14 = .ok (.aload_n 0, 1) := by decide +kernel
theorem d_M_accuse_15 : decode b_M_accuse 15 = .ok (.iload_n 1, 1) := by decide +kernel
theorem d_M_accuse_16 : decode b_M_accuse 16 = .ok (.invokevirtual 117, 3) := by decide +kernel
theorem d_M_accuse_19 : decode b_M_accuse 19 = .ok (.ifCond .ne 7, 3) := by decide +kernel
theorem d_M_accuse_22 : decode b_M_accuse 22 = .ok (.iconst 1, 1) := by decide +kernel
theorem d_M_accuse_23 : decode b_M_accuse 23 = .ok (.goto 4, 3) := by decide +kernel
theorem d_M_accuse_26 : decode b_M_accuse 26 = .ok (.iconst 0, 1) := by decide +kernel
theorem d_M_accuse_27 : decode b_M_accuse 27 = .ok (.invokevirtual 98, 3) := by decide +kernel
theorem d_M_accuse_30 : decode b_M_accuse 30 = .ok (.ifCond .ne 21, 3) := by decide +kernel
theorem d_M_accuse_33 : decode b_M_accuse 33 = .ok (.aload_n 0, 1) := by decide +kernel
theorem d_M_accuse_34 : decode b_M_accuse 34 = .ok (.getfield 19, 3) := by decide +kernel
theorem d_M_accuse_37 : decode b_M_accuse 37 = .ok (.iload_n 1, 1) := by decide +kernel
theorem d_M_accuse_38 : decode b_M_accuse 38 = .ok (.baload, 1) := by decide +kernel
theorem d_M_accuse_39 : decode b_M_accuse 39 = .ok (.ifCond .eq 12, 3) := by decide +kernel
theorem d_M_accuse_42 : decode b_M_accuse 42 = .ok (.aload_n 0, 1) := by decide +kernel
theorem d_M_accuse_43 : decode b_M_accuse 43 = .ok (.getfield 23, 3) := by decide +kernel
theorem d_M_accuse_46 : decode b_M_accuse 46 = .ok (.iload_n 1, 1) := by decide +kernel
theorem d_M_accuse_47 : decode b_M_accuse 47 = .ok (.baload, 1) := by decide +kernel
theorem d_M_accuse_48 : decode b_M_accuse 48 = .ok (.ifCond .eq 5, 3) := by decide +kernel
theorem d_M_accuse_51 : decode b_M_accuse 51 = .ok (.iconst 0, 1) := by decide +kernel
theorem d_M_accuse_52 : decode b_M_accuse 52 = .ok (.ireturn, 1) := by decide +kernel
theorem d_M_accuse_53 : decode b_M_accuse 53 = .ok (.aload_n 0, 1) := by decide +kernel
theorem d_M_accuse_54 : decode b_M_accuse 54 = .ok (.getfield 23, 3) := by decide +kernel
theorem d_M_accuse_57 : decode b_M_accuse 57 = .ok (.iload_n 1, 1) := by decide +kernel
theorem d_M_accuse_58 : decode b_M_accuse 58 = .ok (.iconst 1, 1) := by decide +kernel
theorem d_M_accuse_59 : decode b_M_accuse 59 = .ok (.bastore, 1) := by decide +kernel
theorem d_M_accuse_60 : decode b_M_accuse 60 = .ok (.iconst 1, 1) := by decide +kernel
theorem d_M_accuse_61 : decode b_M_accuse 61 = .ok (.ireturn, 1) := by decide +kernel
theorem d_M_answer_0 : decode b_M_answer 0 = .ok (.aload_n 0, 1) := by decide +kernel
theorem d_M_answer_1 : decode b_M_answer 1 = .ok (.aload_n 0, 1) := by decide +kernel
theorem d_M_answer_2 : decode b_M_answer 2 = .ok (.getfield 92, 3) := by decide +kernel
theorem d_M_answer_5 : decode b_M_answer 5 = .ok (.iconst 4, 1) := by decide +kernel
theorem d_M_answer_6 : decode b_M_answer 6 = .ok (.if_icmp .eq 7, 3) := by decide +kernel
theorem d_M_answer_9 : decode b_M_answer 9 = .ok (.iconst 1, 1) := by decide +kernel
theorem d_M_answer_10 : decode b_M_answer 10 = .ok (.goto 4, 3) := by decide +kernel
theorem d_M_answer_13 : decode b_M_answer 13 = .ok (.iconst 0, 1) := by decide +kernel
theorem d_M_answer_14 : decode b_M_answer 14 = .ok (.aload_n 0, 1) := by decide +kernel
theorem d_M_answer_15 : decode b_M_answer 15 = .ok (.iload_n 1, 1) := by decide +kernel
theorem d_M_answer_16 : decode b_M_answer 16 = .ok (.invokevirtual 117, 3) := by decide +kernel
theorem d_M_answer_19 : decode b_M_answer 19 = .ok (.ifCond .ne 7, 3) := by decide +kernel
theorem d_M_answer_22 : decode b_M_answer 22 = .ok (.iconst 1, 1) := by decide +kernel
theorem d_M_answer_23 : decode b_M_answer 23 = .ok (.goto 4, 3) := by decide +kernel
theorem d_M_answer_26 : decode b_M_answer 26 = .ok (.iconst 0, 1) := by decide +kernel
theorem d_M_answer_27 : decode b_M_answer 27 = .ok (.invokevirtual 98, 3) := by decide +kernel
theorem d_M_answer_30 : decode b_M_answer 30 = .ok (.ifCond .eq 5, 3) := by decide +kernel
theorem d_M_answer_33 : decode b_M_answer 33 = .ok (.iconst 0, 1) := by decide +kernel
theorem d_M_answer_34 : decode b_M_answer 34 = .ok (.ireturn, 1) := by decide +kernel
theorem d_M_answer_35 : decode b_M_answer 35 = .ok (.aload_n 0, 1) := by decide +kernel
theorem d_M_answer_36 : decode b_M_answer 36 = .ok (.getfield 23, 3) := by decide +kernel
theorem d_M_answer_39 : decode b_M_answer 39 = .ok (.iload_n 1, 1) := by decide +kernel
theorem d_M_answer_40 : decode b_M_answer 40 = .ok (.baload, 1) := by decide +kernel
theorem d_M_answer_41 : decode b_M_answer 41 = .ok (.ifCond .ne 10, 3) := by decide +kernel
theorem d_M_answer_44 : decode b_M_answer 44 = .ok (.aload_n 0, 1) := by decide +kernel
theorem d_M_answer_45 : decode b_M_answer 45 = .ok (.iconst 3, 1) := by decide +kernel
theorem d_M_answer_46 : decode b_M_answer 46 = .ok (.putfield 85, 3) := by decide +kernel
theorem d_M_answer_49 : decode b_M_answer 49 = .ok (.iconst 0, 1) := by decide +kernel
theorem d_M_answer_50 : decode b_M_answer 50 = .ok (.ireturn, 1) := by decide +kernel
theorem d_M_answer_51 : decode b_M_answer 51 = .ok (.aload_n 0, 1) := by decide +kernel
theorem d_M_answer_52 : decode b_M_answer 52 = .ok (.getfield 26, 3) := by decide +kernel
theorem d_M_answer_55 : decode b_M_answer 55 = .ok (.iload_n 1, 1) := by decide +kernel
theorem d_M_answer_56 : decode b_M_answer 56 = .ok (.iconst 1, 1) := by decide +kernel
theorem d_M_answer_57 : decode b_M_answer 57 = .ok (.bastore, 1) := by decide +kernel
theorem d_M_answer_58 : decode b_M_answer 58 = .ok (.aload_n 0, 1) := by decide +kernel
theorem d_M_answer_59 : decode b_M_answer 59 = .ok (.getfield 29, 3) := by decide +kernel
theorem d_M_answer_62 : decode b_M_answer 62 = .ok (.iload_n 1, 1) := by decide +kernel
theorem d_M_answer_63 : decode b_M_answer 63 = .ok (.aload_n 0, 1) := by decide +kernel
theorem d_M_answer_64 : decode b_M_answer 64 = .ok (.iload_n 2, 1) := by decide +kernel
theorem d_M_answer_65 : decode b_M_answer 65 = .ok (.invokevirtual 102, 3) := by decide +kernel
theorem d_M_answer_68 : decode b_M_answer 68 = .ok (.iastore, 1) := by decide +kernel
theorem d_M_answer_69 : decode b_M_answer 69 = .ok (.aload_n 0, 1) := by decide +kernel
theorem d_M_answer_70 : decode b_M_answer 70 = .ok (.getfield 32, 3) := by decide +kernel
theorem d_M_answer_73 : decode b_M_answer 73 = .ok (.iload_n 1, 1) := by decide +kernel
theorem d_M_answer_74 : decode b_M_answer 74 = .ok (.aload_n 0, 1) := by decide +kernel
theorem d_M_answer_75 : decode b_M_answer 75 = .ok (.getfield 88, 3) := by decide +kernel
theorem d_M_answer_78 : decode b_M_answer 78 = .ok (.ifCond .eq 11, 3) := by decide +kernel
theorem d_M_answer_81 : decode b_M_answer 81 = .ok (.aload_n 0, 1) := by decide +kernel
theorem d_M_answer_82 : decode b_M_answer 82 = .ok (.iload_n 3, 1) := by decide +kernel
theorem d_M_answer_83 : decode b_M_answer 83 = .ok (.invokevirtual 102, 3) := by decide +kernel
theorem d_M_answer_86 : decode b_M_answer 86 = .ok (.goto 4, 3) := by decide +kernel
theorem d_M_answer_89 : decode b_M_answer 89 = .ok (.iconst 0, 1) := by decide +kernel
theorem d_M_answer_90 : decode b_M_answer 90 = .ok (.iastore, 1) := by decide +kernel
theorem d_M_answer_91 : decode b_M_answer 91 = .ok (.aload_n 0, 1) := by decide +kernel
theorem d_M_answer_92 : decode b_M_answer 92 = .ok (.iload_n 1, 1) := by decide +kernel
theorem d_M_answer_93 : decode b_M_answer 93 = .ok (.aload_n 0, 1) := by decide +kernel
theorem d_M_answer_94 : decode b_M_answer 94 = .ok (.getfield 29, 3) := by decide +kernel
theorem d_M_answer_97 : decode b_M_answer 97 = .ok (.iload_n 1, 1) := by decide +kernel
theorem d_M_answer_98 : decode b_M_answer 98 = .ok (.iaload, 1) := by decide +kernel
theorem d_M_answer_99 : decode b_M_answer 99 = .ok (.aload_n 0, 1) := by decide +kernel
theorem d_M_answer_100 : decode b_M_answer 100 = .ok (.getfield 32, 3) := by decide +kernel
theorem d_M_answer_103 : decode b_M_answer 103 = .ok (.iload_n 1, 1) := by decide +kernel
theorem d_M_answer_104 : decode b_M_answer 104 = .ok (.iaload, 1) := by decide +kernel
theorem d_M_answer_105 : decode b_M_answer 105 = .ok (.invokevirtual 110, 3) := by decide +kernel
theorem d_M_answer_108 : decode b_M_answer 108 = .ok (.ireturn, 1) := by decide +kernel
theorem d_M_lay_0 : decode b_M_lay 0 = .ok (.aload_n 0, 1) := by decide +kernel
theorem d_M_lay_1 : decode b_M_lay 1 = .ok (.iload_n 1, 1) := by decide +kernel
theorem d_M_lay_2 : decode b_M_lay 2 = .ok (.iload_n 2, 1) := by decide +kernel
theorem d_M_lay_3 : decode b_M_lay 3 = .ok (.iload_n 3, 1) := by decide +kernel
theorem d_M_lay_4 : decode b_M_lay 4 = .ok (.invokevirtual 110, 3) := by decide +kernel
theorem d_M_lay_7 : decode b_M_lay 7 = .ok (.ifCond .ne 5, 3) := by decide +kernel
theorem d_M_lay_10 : decode b_M_lay 10 = .ok (.iconst 0, 1) := by decide +kernel
theorem d_M_lay_11 : decode b_M_lay 11 = .ok (.ireturn, 1) := by decide +kernel
theorem d_M_lay_12 : decode b_M_lay 12 = .ok (.aload_n 0, 1) := by decide +kernel
theorem d_M_lay_13 : decode b_M_lay 13 = .ok (.getfield 35, 3) := by decide +kernel
theorem d_M_lay_16 : decode b_M_lay 16 = .ok (.iload_n 1, 1) := by decide +kernel
theorem d_M_lay_17 : decode b_M_lay 17 = .ok (.baload, 1) := by decide +kernel
theorem d_M_lay_18 : decode b_M_lay 18 = .ok (.ifCond .ne 27, 3) := by decide +kernel
theorem d_M_lay_21 : decode b_M_lay 21 = .ok (.aload_n 0, 1) := by decide +kernel
theorem d_M_lay_22 : decode b_M_lay 22 = .ok (.getfield 35, 3) := by decide +kernel
theorem d_M_lay_25 : decode b_M_lay 25 = .ok (.iload_n 1, 1) := by decide +kernel
theorem d_M_lay_26 : decode b_M_lay 26 = .ok (.iconst 1, 1) := by decide +kernel
theorem d_M_lay_27 : decode b_M_lay 27 = .ok (.bastore, 1) := by decide +kernel
theorem d_M_lay_28 : decode b_M_lay 28 = .ok (.aload_n 0, 1) := by decide +kernel
theorem d_M_lay_29 : decode b_M_lay 29 = .ok (.getfield 38, 3) := by decide +kernel
theorem d_M_lay_32 : decode b_M_lay 32 = .ok (.iload_n 1, 1) := by decide +kernel
theorem d_M_lay_33 : decode b_M_lay 33 = .ok (.iload_n 2, 1) := by decide +kernel
theorem d_M_lay_34 : decode b_M_lay 34 = .ok (.iastore, 1) := by decide +kernel
theorem d_M_lay_35 : decode b_M_lay 35 = .ok (.aload_n 0, 1) := by decide +kernel
theorem d_M_lay_36 : decode b_M_lay 36 = .ok (.getfield 41, 3) := by decide +kernel
theorem d_M_lay_39 : decode b_M_lay 39 = .ok (.iload_n 1, 1) := by decide +kernel
theorem d_M_lay_40 : decode b_M_lay 40 = .ok (.iload_n 3, 1) := by decide +kernel
theorem d_M_lay_41 : decode b_M_lay 41 = .ok (.iastore, 1) := by decide +kernel
theorem d_M_lay_42 : decode b_M_lay 42 = .ok (.goto 55, 3) := by decide +kernel
theorem d_M_lay_45 : decode b_M_lay 45 = .ok (.iload_n 3, 1) := by decide +kernel
theorem d_M_lay_46 : decode b_M_lay 46 = .ok (.aload_n 0, 1) := by decide +kernel
theorem d_M_lay_47 : decode b_M_lay 47 = .ok (.getfield 41, 3) := by decide +kernel
theorem d_M_lay_50 : decode b_M_lay 50 = .ok (.iload_n 1, 1) := by decide +kernel
theorem d_M_lay_51 : decode b_M_lay 51 = .ok (.iaload, 1) := by decide +kernel
theorem d_M_lay_52 : decode b_M_lay 52 = .ok (.if_icmp .eq 45, 3) := by decide +kernel
theorem d_M_lay_55 : decode b_M_lay 55 = .ok (.aload_n 0, 1) := by decide +kernel
theorem d_M_lay_56 : decode b_M_lay 56 = .ok (.getfield 95, 3) := by decide +kernel
theorem d_M_lay_59 : decode b_M_lay 59 = .ok (.ifCond .ne 38, 3) := by decide +kernel
theorem d_M_lay_62 : decode b_M_lay 62 = .ok (.aload_n 0, 1) := by decide +kernel
theorem d_M_lay_63 : decode b_M_lay 63 = .ok (.iconst 1, 1) := by decide +kernel
theorem d_M_lay_64 : decode b_M_lay 64 = .ok (.putfield 95, 3) := by decide +kernel
theorem d_M_lay_67 : decode b_M_lay 67 = .ok (.aload_n 0, 1) := by decide +kernel
theorem d_M_lay_68 : decode b_M_lay 68 = .ok (.aload_n 0, 1) := by decide +kernel
theorem d_M_lay_69 : decode b_M_lay 69 = .ok (.aload_n 0, 1) := by decide +kernel
theorem d_M_lay_70 : decode b_M_lay 70 = .ok (.aload_n 0, 1) := by decide +kernel
theorem d_M_lay_71 : decode b_M_lay 71 = .ok (.getfield 38, 3) := by decide +kernel
theorem d_M_lay_74 : decode b_M_lay 74 = .ok (.iload_n 1, 1) := by decide +kernel
theorem d_M_lay_75 : decode b_M_lay 75 = .ok (.iaload, 1) := by decide +kernel
theorem d_M_lay_76 : decode b_M_lay 76 = .ok (.iload_n 2, 1) := by decide +kernel
theorem d_M_lay_77 : decode b_M_lay 77 = .ok (.invokevirtual 120, 3) := by decide +kernel
theorem d_M_lay_80 : decode b_M_lay 80 = .ok (.aload_n 0, 1) := by decide +kernel
theorem d_M_lay_81 : decode b_M_lay 81 = .ok (.iload_n 3, 1) := by decide +kernel
theorem d_M_lay_82 : decode b_M_lay 82 = .ok (.aload_n 0, 1) := by decide +kernel
theorem d_M_lay_83 : decode b_M_lay 83 = .ok (.getfield 41, 3) := by decide +kernel
theorem d_M_lay_86 : decode b_M_lay 86 = .ok (.iload_n 1, 1) := by decide +kernel
theorem d_M_lay_87 : decode b_M_lay 87 = .ok (.iaload, 1) := by decide +kernel
theorem d_M_lay_88 : decode b_M_lay 88 = .ok (.invokevirtual 120, 3) := by decide +kernel
theorem d_M_lay_91 : decode b_M_lay 91 = .ok (.invokevirtual 123, 3) := by decide +kernel
theorem d_M_lay_94 : decode b_M_lay 94 = .ok (.putfield 126, 3) := by decide +kernel
theorem d_M_lay_97 : decode b_M_lay 97 = .ok (.iconst 1, 1) := by decide +kernel
theorem d_M_lay_98 : decode b_M_lay 98 = .ok (.ireturn, 1) := by decide +kernel
theorem d_M_open_0 : decode b_M_open 0 = .ok (.aload_n 0, 1) := by decide +kernel
theorem d_M_open_1 : decode b_M_open 1 = .ok (.aload_n 0, 1) := by decide +kernel
theorem d_M_open_2 : decode b_M_open 2 = .ok (.getfield 92, 3) := by decide +kernel
theorem d_M_open_5 : decode b_M_open 5 = .ok (.iconst 5, 1) := by decide +kernel
theorem d_M_open_6 : decode b_M_open 6 = .ok (.if_icmp .eq 7, 3) := by decide +kernel
theorem d_M_open_9 : decode b_M_open 9 = .ok (.iconst 1, 1) := by decide +kernel
theorem d_M_open_10 : decode b_M_open 10 = .ok (.goto 4, 3) := by decide +kernel
theorem d_M_open_13 : decode b_M_open 13 = .ok (.iconst 0, 1) := by decide +kernel
theorem d_M_open_14 : decode b_M_open 14 = .ok (.aload_n 0, 1) := by decide +kernel
theorem d_M_open_15 : decode b_M_open 15 = .ok (.iload_n 1, 1) := by decide +kernel
theorem d_M_open_16 : decode b_M_open 16 = .ok (.invokevirtual 117, 3) := by decide +kernel
theorem d_M_open_19 : decode b_M_open 19 = .ok (.ifCond .ne 7, 3) := by decide +kernel
theorem d_M_open_22 : decode b_M_open 22 = .ok (.iconst 1, 1) := by decide +kernel
theorem d_M_open_23 : decode b_M_open 23 = .ok (.goto 4, 3) := by decide +kernel
theorem d_M_open_26 : decode b_M_open 26 = .ok (.iconst 0, 1) := by decide +kernel
theorem d_M_open_27 : decode b_M_open 27 = .ok (.invokevirtual 98, 3) := by decide +kernel
theorem d_M_open_30 : decode b_M_open 30 = .ok (.ifCond .ne 27, 3) := by decide +kernel
theorem d_M_open_33 : decode b_M_open 33 = .ok (.aload_n 0, 1) := by decide +kernel
theorem d_M_open_34 : decode b_M_open 34 = .ok (.iload_n 1, 1) := by decide +kernel
theorem d_M_open_35 : decode b_M_open 35 = .ok (.aload_n 0, 1) := by decide +kernel
theorem d_M_open_36 : decode b_M_open 36 = .ok (.getfield 29, 3) := by decide +kernel
theorem d_M_open_39 : decode b_M_open 39 = .ok (.iload_n 1, 1) := by decide +kernel
theorem d_M_open_40 : decode b_M_open 40 = .ok (.iaload, 1) := by decide +kernel
theorem d_M_open_41 : decode b_M_open 41 = .ok (.aload_n 0, 1) := by decide +kernel
theorem d_M_open_42 : decode b_M_open 42 = .ok (.getfield 32, 3) := by decide +kernel
theorem d_M_open_45 : decode b_M_open 45 = .ok (.iload_n 1, 1) := by decide +kernel
theorem d_M_open_46 : decode b_M_open 46 = .ok (.iaload, 1) := by decide +kernel
theorem d_M_open_47 : decode b_M_open 47 = .ok (.invokevirtual 129, 3) := by decide +kernel
theorem d_M_open_50 : decode b_M_open 50 = .ok (.ifCond .eq 7, 3) := by decide +kernel
theorem d_M_open_53 : decode b_M_open 53 = .ok (.iconst 1, 1) := by decide +kernel
theorem d_M_open_54 : decode b_M_open 54 = .ok (.goto 4, 3) := by decide +kernel
theorem d_M_open_57 : decode b_M_open 57 = .ok (.iconst 0, 1) := by decide +kernel
theorem d_M_open_58 : decode b_M_open 58 = .ok (.ireturn, 1) := by decide +kernel
theorem d_M_show_0 : decode b_M_show 0 = .ok (.aload_n 0, 1) := by decide +kernel
theorem d_M_show_1 : decode b_M_show 1 = .ok (.aload_n 0, 1) := by decide +kernel
theorem d_M_show_2 : decode b_M_show 2 = .ok (.getfield 92, 3) := by decide +kernel
theorem d_M_show_5 : decode b_M_show 5 = .ok (.iconst 5, 1) := by decide +kernel
theorem d_M_show_6 : decode b_M_show 6 = .ok (.if_icmp .eq 7, 3) := by decide +kernel
theorem d_M_show_9 : decode b_M_show 9 = .ok (.iconst 1, 1) := by decide +kernel
theorem d_M_show_10 : decode b_M_show 10 = .ok (.goto 4, 3) := by decide +kernel
theorem d_M_show_13 : decode b_M_show 13 = .ok (.iconst 0, 1) := by decide +kernel
theorem d_M_show_14 : decode b_M_show 14 = .ok (.aload_n 0, 1) := by decide +kernel
theorem d_M_show_15 : decode b_M_show 15 = .ok (.iload_n 1, 1) := by decide +kernel
theorem d_M_show_16 : decode b_M_show 16 = .ok (.invokevirtual 117, 3) := by decide +kernel
theorem d_M_show_19 : decode b_M_show 19 = .ok (.ifCond .ne 7, 3) := by decide +kernel
theorem d_M_show_22 : decode b_M_show 22 = .ok (.iconst 1, 1) := by decide +kernel
theorem d_M_show_23 : decode b_M_show 23 = .ok (.goto 4, 3) := by decide +kernel
theorem d_M_show_26 : decode b_M_show 26 = .ok (.iconst 0, 1) := by decide +kernel
theorem d_M_show_27 : decode b_M_show 27 = .ok (.invokevirtual 98, 3) := by decide +kernel
theorem d_M_show_30 : decode b_M_show 30 = .ok (.ifCond .ne 25, 3) := by decide +kernel
theorem d_M_show_33 : decode b_M_show 33 = .ok (.aload_n 0, 1) := by decide +kernel
theorem d_M_show_34 : decode b_M_show 34 = .ok (.iload_n 1, 1) := by decide +kernel
theorem d_M_show_35 : decode b_M_show 35 = .ok (.aload_n 0, 1) := by decide +kernel
theorem d_M_show_36 : decode b_M_show 36 = .ok (.iload_n 2, 1) := by decide +kernel
theorem d_M_show_37 : decode b_M_show 37 = .ok (.invokevirtual 102, 3) := by decide +kernel
theorem d_M_show_40 : decode b_M_show 40 = .ok (.aload_n 0, 1) := by decide +kernel
theorem d_M_show_41 : decode b_M_show 41 = .ok (.iload_n 3, 1) := by decide +kernel
theorem d_M_show_42 : decode b_M_show 42 = .ok (.invokevirtual 102, 3) := by decide +kernel
theorem d_M_show_45 : decode b_M_show 45 = .ok (.invokevirtual 129, 3) := by decide +kernel
theorem d_M_show_48 : decode b_M_show 48 = .ok (.ifCond .eq 7, 3) := by decide +kernel
theorem d_M_show_51 : decode b_M_show 51 = .ok (.iconst 1, 1) := by decide +kernel
theorem d_M_show_52 : decode b_M_show 52 = .ok (.goto 4, 3) := by decide +kernel
theorem d_M_show_55 : decode b_M_show 55 = .ok (.iconst 0, 1) := by decide +kernel
theorem d_M_show_56 : decode b_M_show 56 = .ok (.ireturn, 1) := by decide +kernel
theorem d_M_secret_0 : decode b_M_secret 0 = .ok (.aload_n 0, 1) := by decide +kernel
theorem d_M_secret_1 : decode b_M_secret 1 = .ok (.aload_n 0, 1) := by decide +kernel
theorem d_M_secret_2 : decode b_M_secret 2 = .ok (.getfield 92, 3) := by decide +kernel
theorem d_M_secret_5 : decode b_M_secret 5 = .ok (.iconst 5, 1) := by decide +kernel
theorem d_M_secret_6 : decode b_M_secret 6 = .ok (.if_icmp .eq 7, 3) := by decide +kernel
theorem d_M_secret_9 : decode b_M_secret 9 = .ok (.iconst 1, 1) := by decide +kernel
theorem d_M_secret_10 : decode b_M_secret 10 = .ok (.goto 4, 3) := by decide +kernel
theorem d_M_secret_13 : decode b_M_secret 13 = .ok (.iconst 0, 1) := by decide +kernel
theorem d_M_secret_14 : decode b_M_secret 14 = .ok (.iconst 0, 1) := by decide +kernel
theorem d_M_secret_15 : decode b_M_secret 15 = .ok (.invokevirtual 98, 3) := by decide +kernel
theorem d_M_secret_18 : decode b_M_secret 18 = .ok (.ifCond .eq 5, 3) := by decide +kernel
theorem d_M_secret_21 : decode b_M_secret 21 = .ok (.iconst 0, 1) := by decide +kernel
theorem d_M_secret_22 : decode b_M_secret 22 = .ok (.ireturn, 1) := by decide +kernel
theorem d_M_secret_23 : decode b_M_secret 23 = .ok (.iconst 0, 1) := by decide +kernel
theorem d_M_secret_24 : decode b_M_secret 24 = .ok (.istore_n 1, 1) := by decide +kernel
theorem d_M_secret_25 : decode b_M_secret 25 = .ok (.iconst 1, 1) := by decide +kernel
theorem d_M_secret_26 : decode b_M_secret 26 = .ok (.istore_n 2, 1) := by decide +kernel
theorem d_M_secret_27 : decode b_M_secret 27 = .ok (.iload_n 2, 1) := by decide +kernel
theorem d_M_secret_28 : decode b_M_secret 28 = .ok (.aload_n 0, 1) := by decide +kernel
theorem d_M_secret_29 : decode b_M_secret 29 = .ok (.getfield 82, 3) := by decide +kernel
theorem d_M_secret_32 : decode b_M_secret 32 = .ok (.if_icmp .gt 48, 3) := by decide +kernel
theorem d_M_secret_35 : decode b_M_secret 35 = .ok (.iload_n 1, 1) := by decide +kernel
theorem d_M_secret_36 : decode b_M_secret 36 = .ok (.aload_n 0, 1) := by decide +kernel
theorem d_M_secret_37 : decode b_M_secret 37 = .ok (.getfield 75, 3) := by decide +kernel
theorem d_M_secret_40 : decode b_M_secret 40 = .ok (.if_icmp .ge 40, 3) := by decide +kernel
theorem d_M_secret_43 : decode b_M_secret 43 = .ok (.aload_n 0, 1) := by decide +kernel
theorem d_M_secret_44 : decode b_M_secret 44 = .ok (.getfield 35, 3) := by decide +kernel
theorem d_M_secret_47 : decode b_M_secret 47 = .ok (.iload_n 2, 1) := by decide +kernel
theorem d_M_secret_48 : decode b_M_secret 48 = .ok (.baload, 1) := by decide +kernel
theorem d_M_secret_49 : decode b_M_secret 49 = .ok (.ifCond .eq 25, 3) := by decide +kernel
theorem d_M_secret_52 : decode b_M_secret 52 = .ok (.aload_n 0, 1) := by decide +kernel
theorem d_M_secret_53 : decode b_M_secret 53 = .ok (.getfield 44, 3) := by decide +kernel
theorem d_M_secret_56 : decode b_M_secret 56 = .ok (.iload_n 1, 1) := by decide +kernel
theorem d_M_secret_57 : decode b_M_secret 57 = .ok (.iload_n 2, 1) := by decide +kernel
theorem d_M_secret_58 : decode b_M_secret 58 = .ok (.iastore, 1) := by decide +kernel
theorem d_M_secret_59 : decode b_M_secret 59 = .ok (.aload_n 0, 1) := by decide +kernel
theorem d_M_secret_60 : decode b_M_secret 60 = .ok (.getfield 47, 3) := by decide +kernel
theorem d_M_secret_63 : decode b_M_secret 63 = .ok (.iload_n 1, 1) := by decide +kernel
theorem d_M_secret_64 : decode b_M_secret 64 = .ok (.aload_n 0, 1) := by decide +kernel
theorem d_M_secret_65 : decode b_M_secret 65 = .ok (.getfield 38, 3) := by decide +kernel
theorem d_M_secret_68 : decode b_M_secret 68 = .ok (.iload_n 2, 1) := by decide +kernel
theorem d_M_secret_69 : decode b_M_secret 69 = .ok (.iaload, 1) := by decide +kernel
theorem d_M_secret_70 : decode b_M_secret 70 = .ok (.iastore, 1) := by decide +kernel
theorem d_M_secret_71 : decode b_M_secret 71 = .ok (.iinc 1 1, 3) := by decide +kernel
theorem d_M_secret_74 : decode b_M_secret 74 = .ok (.iinc 2 1, 3) := by decide +kernel
theorem d_M_secret_77 : decode b_M_secret 77 = .ok (.goto (-50), 3) := by decide +kernel
theorem d_M_secret_80 : decode b_M_secret 80 = .ok (.iload_n 1, 1) := by decide +kernel
theorem d_M_secret_81 : decode b_M_secret 81 = .ok (.aload_n 0, 1) := by decide +kernel
theorem d_M_secret_82 : decode b_M_secret 82 = .ok (.getfield 75, 3) := by decide +kernel
theorem d_M_secret_85 : decode b_M_secret 85 = .ok (.if_icmp .ge 10, 3) := by decide +kernel
theorem d_M_secret_88 : decode b_M_secret 88 = .ok (.aload_n 0, 1) := by decide +kernel
theorem d_M_secret_89 : decode b_M_secret 89 = .ok (.iconst 2, 1) := by decide +kernel
theorem d_M_secret_90 : decode b_M_secret 90 = .ok (.putfield 85, 3) := by decide +kernel
theorem d_M_secret_93 : decode b_M_secret 93 = .ok (.iconst 0, 1) := by decide +kernel
theorem d_M_secret_94 : decode b_M_secret 94 = .ok (.ireturn, 1) := by decide +kernel
theorem d_M_secret_95 : decode b_M_secret 95 = .ok (.aload_n 0, 1) := by decide +kernel
theorem d_M_secret_96 : decode b_M_secret 96 = .ok (.invokevirtual 132, 3) := by decide +kernel
theorem d_M_secret_99 : decode b_M_secret 99 = .ok (.ireturn, 1) := by decide +kernel
theorem d_M_atZero_0 : decode b_M_atZero 0 = .ok (.iconst 1, 1) := by decide +kernel
theorem d_M_atZero_1 : decode b_M_atZero 1 = .ok (.istore_n 1, 1) := by decide +kernel
theorem d_M_atZero_2 : decode b_M_atZero 2 = .ok (.iload_n 1, 1) := by decide +kernel
theorem d_M_atZero_3 : decode b_M_atZero 3 = .ok (.aload_n 0, 1) := by decide +kernel
theorem d_M_atZero_4 : decode b_M_atZero 4 = .ok (.getfield 75, 3) := by decide +kernel
theorem d_M_atZero_7 : decode b_M_atZero 7 = .ok (.if_icmp .ge 74, 3) := by decide +kernel
theorem d_M_atZero_10 : decode b_M_atZero 10 = .ok (.aload_n 0, 1) := by decide +kernel
theorem d_M_atZero_11 : decode b_M_atZero 11 = .ok (.getfield 75, 3) := by decide +kernel
theorem d_M_atZero_14 : decode b_M_atZero 14 = .ok (.iconst 1, 1) := by decide +kernel
theorem d_M_atZero_15 : decode b_M_atZero 15 = .ok (.isub, 1) := by decide +kernel
theorem d_M_atZero_16 : decode b_M_atZero 16 = .ok (.istore_n 2, 1) := by decide +kernel
theorem d_M_atZero_17 : decode b_M_atZero 17 = .ok (.iload_n 2, 1) := by decide +kernel
theorem d_M_atZero_18 : decode b_M_atZero 18 = .ok (.iload_n 1, 1) := by decide +kernel
theorem d_M_atZero_19 : decode b_M_atZero 19 = .ok (.if_icmp .lt 56, 3) := by decide +kernel
theorem d_M_atZero_22 : decode b_M_atZero 22 = .ok (.aload_n 0, 1) := by decide +kernel
theorem d_M_atZero_23 : decode b_M_atZero 23 = .ok (.getfield 47, 3) := by decide +kernel
theorem d_M_atZero_26 : decode b_M_atZero 26 = .ok (.iload_n 2, 1) := by decide +kernel
theorem d_M_atZero_27 : decode b_M_atZero 27 = .ok (.aload_n 0, 1) := by decide +kernel
theorem d_M_atZero_28 : decode b_M_atZero 28 = .ok (.aload_n 0, 1) := by decide +kernel
theorem d_M_atZero_29 : decode b_M_atZero 29 = .ok (.aload_n 0, 1) := by decide +kernel
theorem d_M_atZero_30 : decode b_M_atZero 30 = .ok (.getfield 47, 3) := by decide +kernel
theorem d_M_atZero_33 : decode b_M_atZero 33 = .ok (.iload_n 2, 1) := by decide +kernel
theorem d_M_atZero_34 : decode b_M_atZero 34 = .ok (.iaload, 1) := by decide +kernel
theorem d_M_atZero_35 : decode b_M_atZero 35 = .ok (.aload_n 0, 1) := by decide +kernel
theorem d_M_atZero_36 : decode b_M_atZero 36 = .ok (.getfield 47, 3) := by decide +kernel
theorem d_M_atZero_39 : decode b_M_atZero 39 = .ok (.iload_n 2, 1) := by decide +kernel
theorem d_M_atZero_40 : decode b_M_atZero 40 = .ok (.iconst 1, 1) := by decide +kernel
theorem d_M_atZero_41 : decode b_M_atZero 41 = .ok (.isub, 1) := by decide +kernel
theorem d_M_atZero_42 : decode b_M_atZero 42 = .ok (.iaload, 1) := by decide +kernel
theorem d_M_atZero_43 : decode b_M_atZero 43 = .ok (.invokevirtual 120, 3) := by decide +kernel
theorem d_M_atZero_46 : decode b_M_atZero 46 = .ok (.aload_n 0, 1) := by decide +kernel
theorem d_M_atZero_47 : decode b_M_atZero 47 = .ok (.aload_n 0, 1) := by decide +kernel
theorem d_M_atZero_48 : decode b_M_atZero 48 = .ok (.getfield 44, 3) := by decide +kernel
theorem d_M_atZero_51 : decode b_M_atZero 51 = .ok (.iload_n 2, 1) := by decide +kernel
theorem d_M_atZero_52 : decode b_M_atZero 52 = .ok (.iaload, 1) := by decide +kernel
theorem d_M_atZero_53 : decode b_M_atZero 53 = .ok (.aload_n 0, 1) := by decide +kernel
theorem d_M_atZero_54 : decode b_M_atZero 54 = .ok (.getfield 44, 3) := by decide +kernel
theorem d_M_atZero_57 : decode b_M_atZero 57 = .ok (.iload_n 2, 1) := by decide +kernel
theorem d_M_atZero_58 : decode b_M_atZero 58 = .ok (.iload_n 1, 1) := by decide +kernel
theorem d_M_atZero_59 : decode b_M_atZero 59 = .ok (.isub, 1) := by decide +kernel
theorem d_M_atZero_60 : decode b_M_atZero 60 = .ok (.iaload, 1) := by decide +kernel
theorem d_M_atZero_61 : decode b_M_atZero 61 = .ok (.isub, 1) := by decide +kernel
theorem d_M_atZero_62 : decode b_M_atZero 62 = .ok (.invokevirtual 102, 3) := by decide +kernel
theorem d_M_atZero_65 : decode b_M_atZero 65 = .ok (.invokevirtual 123, 3) := by decide +kernel
theorem d_M_atZero_68 : decode b_M_atZero 68 = .ok (.iastore, 1) := by decide +kernel
theorem d_M_atZero_69 : decode b_M_atZero 69 = .ok (.iinc 2 (-1), 3) := by decide +kernel
theorem d_M_atZero_72 : decode b_M_atZero 72 = .ok (.goto (-55), 3) := by decide +kernel
theorem d_M_atZero_75 : decode b_M_atZero 75 = .ok (.iinc 1 1, 3) := by decide +kernel
theorem d_M_atZero_78 : decode b_M_atZero 78 = .ok (.goto (-76), 3) := by decide +kernel
theorem d_M_atZero_81 : decode b_M_atZero 81 = .ok (.iconst 0, 1) := by decide +kernel
theorem d_M_atZero_82 : decode b_M_atZero 82 = .ok (.istore_n 1, 1) := by decide +kernel
theorem d_M_atZero_83 : decode b_M_atZero 83 = .ok (.aload_n 0, 1) := by decide +kernel
theorem d_M_atZero_84 : decode b_M_atZero 84 = .ok (.getfield 75, 3) := by decide +kernel
theorem d_M_atZero_87 : decode b_M_atZero 87 = .ok (.iconst 1, 1) := by decide +kernel
theorem d_M_atZero_88 : decode b_M_atZero 88 = .ok (.isub, 1) := by decide +kernel
theorem d_M_atZero_89 : decode b_M_atZero 89 = .ok (.istore_n 2, 1) := by decide +kernel
theorem d_M_atZero_90 : decode b_M_atZero 90 = .ok (.iload_n 2, 1) := by decide +kernel
theorem d_M_atZero_91 : decode b_M_atZero 91 = .ok (.ifCond .lt 47, 3) := by decide +kernel
theorem d_M_atZero_94 : decode b_M_atZero 94 = .ok (.iload_n 1, 1) := by decide +kernel
theorem d_M_atZero_95 : decode b_M_atZero 95 = .ok (.aload_n 0, 1) := by decide +kernel
theorem d_M_atZero_96 : decode b_M_atZero 96 = .ok (.aload_n 0, 1) := by decide +kernel
theorem d_M_atZero_97 : decode b_M_atZero 97 = .ok (.getfield 44, 3) := by decide +kernel
theorem d_M_atZero_100 : decode b_M_atZero 100 = .ok (.iload_n 2, 1) := by decide +kernel
theorem d_M_atZero_101 : decode b_M_atZero 101 = .ok (.iaload, 1) := by decide +kernel
theorem d_M_atZero_102 : decode b_M_atZero 102 = .ok (.ineg, 1) := by decide +kernel
theorem d_M_atZero_103 : decode b_M_atZero 103 = .ok (.invokevirtual 102, 3) := by decide +kernel
theorem d_M_atZero_106 : decode b_M_atZero 106 = .ok (.aload_n 0, 1) := by decide +kernel
theorem d_M_atZero_107 : decode b_M_atZero 107 = .ok (.getfield 62, 3) := by decide +kernel
theorem d_M_atZero_110 : decode b_M_atZero 110 = .ok (.invokestatic 72, 3) := by decide +kernel
theorem d_M_atZero_113 : decode b_M_atZero 113 = .ok (.istore_n 3, 1) := by decide +kernel
theorem d_M_atZero_114 : decode b_M_atZero 114 = .ok (.iload_n 3, 1) := by decide +kernel
theorem d_M_atZero_115 : decode b_M_atZero 115 = .ok (.i2l, 1) := by decide +kernel
theorem d_M_atZero_116 : decode b_M_atZero 116 = .ok (.aload_n 0, 1) := by decide +kernel
theorem d_M_atZero_117 : decode b_M_atZero 117 = .ok (.getfield 47, 3) := by decide +kernel
theorem d_M_atZero_120 : decode b_M_atZero 120 = .ok (.iload_n 2, 1) := by decide +kernel
theorem d_M_atZero_121 : decode b_M_atZero 121 = .ok (.iaload, 1) := by decide +kernel
theorem d_M_atZero_122 : decode b_M_atZero 122 = .ok (.i2l, 1) := by decide +kernel
theorem d_M_atZero_123 : decode b_M_atZero 123 = .ok (.ladd, 1) := by decide +kernel
theorem d_M_atZero_124 : decode b_M_atZero 124 = .ok (.aload_n 0, 1) := by decide +kernel
theorem d_M_atZero_125 : decode b_M_atZero 125 = .ok (.getfield 62, 3) := by decide +kernel
theorem d_M_atZero_128 : decode b_M_atZero 128 = .ok (.i2l, 1) := by decide +kernel
theorem d_M_atZero_129 : decode b_M_atZero 129 = .ok (.lrem, 1) := by decide +kernel
theorem d_M_atZero_130 : decode b_M_atZero 130 = .ok (.l2i, 1) := by decide +kernel
theorem d_M_atZero_131 : decode b_M_atZero 131 = .ok (.istore_n 1, 1) := by decide +kernel
theorem d_M_atZero_132 : decode b_M_atZero 132 = .ok (.iinc 2 (-1), 3) := by decide +kernel
theorem d_M_atZero_135 : decode b_M_atZero 135 = .ok (.goto (-45), 3) := by decide +kernel
theorem d_M_atZero_138 : decode b_M_atZero 138 = .ok (.iload_n 1, 1) := by decide +kernel
theorem d_M_atZero_139 : decode b_M_atZero 139 = .ok (.ireturn, 1) := by decide +kernel
theorem d_M_relation_0 : decode b_M_relation 0 = .ok (.aload_n 0, 1) := by decide +kernel
theorem d_M_relation_1 : decode b_M_relation 1 = .ok (.aload_n 0, 1) := by decide +kernel
theorem d_M_relation_2 : decode b_M_relation 2 = .ok (.getfield 92, 3) := by decide +kernel
theorem d_M_relation_5 : decode b_M_relation 5 = .ok (.iconst 5, 1) := by decide +kernel
theorem d_M_relation_6 : decode b_M_relation 6 = .ok (.if_icmp .eq 7, 3) := by decide +kernel
theorem d_M_relation_9 : decode b_M_relation 9 = .ok (.iconst 1, 1) := by decide +kernel
theorem d_M_relation_10 : decode b_M_relation 10 = .ok (.goto 4, 3) := by decide +kernel
theorem d_M_relation_13 : decode b_M_relation 13 = .ok (.iconst 0, 1) := by decide +kernel
theorem d_M_relation_14 : decode b_M_relation 14 = .ok (.aload_n 0, 1) := by decide +kernel
theorem d_M_relation_15 : decode b_M_relation 15 = .ok (.getfield 95, 3) := by decide +kernel
theorem d_M_relation_18 : decode b_M_relation 18 = .ok (.ifCond .ne 7, 3) := by decide +kernel
theorem d_M_relation_21 : decode b_M_relation 21 = .ok (.iconst 1, 1) := by decide +kernel
theorem d_M_relation_22 : decode b_M_relation 22 = .ok (.goto 4, 3) := by decide +kernel
theorem d_M_relation_25 : decode b_M_relation 25 = .ok (.iconst 0, 1) := by decide +kernel
theorem d_M_relation_26 : decode b_M_relation 26 = .ok (.invokevirtual 98, 3) := by decide +kernel
theorem d_M_relation_29 : decode b_M_relation 29 = .ok (.ifCond .eq 5, 3) := by decide +kernel
theorem d_M_relation_32 : decode b_M_relation 32 = .ok (.iconst 0, 1) := by decide +kernel
theorem d_M_relation_33 : decode b_M_relation 33 = .ok (.ireturn, 1) := by decide +kernel
theorem d_M_relation_34 : decode b_M_relation 34 = .ok (.aload_n 0, 1) := by decide +kernel
theorem d_M_relation_35 : decode b_M_relation 35 = .ok (.getfield 126, 3) := by decide +kernel
theorem d_M_relation_38 : decode b_M_relation 38 = .ok (.ireturn, 1) := by decide +kernel
theorem d_M_stage_0 : decode b_M_stage 0 = .ok (.aload_n 0, 1) := by decide +kernel
theorem d_M_stage_1 : decode b_M_stage 1 = .ok (.iconst 0, 1) := by decide +kernel
theorem d_M_stage_2 : decode b_M_stage 2 = .ok (.putfield 85, 3) := by decide +kernel
theorem d_M_stage_5 : decode b_M_stage 5 = .ok (.aload_n 0, 1) := by decide +kernel
theorem d_M_stage_6 : decode b_M_stage 6 = .ok (.getfield 92, 3) := by decide +kernel
theorem d_M_stage_9 : decode b_M_stage 9 = .ok (.ireturn, 1) := by decide +kernel
theorem d_M_commitment_0 : decode b_M_commitment 0 = .ok (.aload_n 0, 1) := by decide +kernel
theorem d_M_commitment_1 : decode b_M_commitment 1 = .ok (.iconst 0, 1) := by decide +kernel
theorem d_M_commitment_2 : decode b_M_commitment 2 = .ok (.putfield 85, 3) := by decide +kernel
theorem d_M_commitment_5 : decode b_M_commitment 5 = .ok (.aload_n 0, 1) := by decide +kernel
theorem d_M_commitment_6 : decode b_M_commitment 6 = .ok (.getfield 92, 3) := by decide +kernel
theorem d_M_commitment_9 : decode b_M_commitment 9 = .ok (.iconst 2, 1) := by decide +kernel
theorem d_M_commitment_10 : decode b_M_commitment 10 = .ok (.if_icmp .lt 24, 3) := by decide +kernel
theorem d_M_commitment_13 : decode b_M_commitment 13 = .ok (.iload_n 1, 1) := by decide +kernel
theorem d_M_commitment_14 : decode b_M_commitment 14 = .ok (.ifCond .lt 20, 3) := by decide +kernel
theorem d_M_commitment_17 : decode b_M_commitment 17 = .ok (.iload_n 1, 1) := by decide +kernel
theorem d_M_commitment_18 : decode b_M_commitment 18 = .ok (.aload_n 0, 1) := by decide +kernel
theorem d_M_commitment_19 : decode b_M_commitment 19 = .ok (.getfield 75, 3) := by decide +kernel
theorem d_M_commitment_22 : decode b_M_commitment 22 = .ok (.if_icmp .ge 12, 3) := by decide +kernel
theorem d_M_commitment_25 : decode b_M_commitment 25 = .ok (.aload_n 0, 1) := by decide +kernel
theorem d_M_commitment_26 : decode b_M_commitment 26 = .ok (.getfield 16, 3) := by decide +kernel
theorem d_M_commitment_29 : decode b_M_commitment 29 = .ok (.iload_n 1, 1) := by decide +kernel
theorem d_M_commitment_30 : decode b_M_commitment 30 = .ok (.iaload, 1) := by decide +kernel
theorem d_M_commitment_31 : decode b_M_commitment 31 = .ok (.goto 4, 3) := by decide +kernel
theorem d_M_commitment_34 : decode b_M_commitment 34 = .ok (.iconst 0, 1) := by decide +kernel
theorem d_M_commitment_35 : decode b_M_commitment 35 = .ok (.ireturn, 1) := by decide +kernel
theorem d_M_share_0 : decode b_M_share 0 = .ok (.aload_n 0, 1) := by decide +kernel
theorem d_M_share_1 : decode b_M_share 1 = .ok (.iconst 0, 1) := by decide +kernel
theorem d_M_share_2 : decode b_M_share 2 = .ok (.putfield 85, 3) := by decide +kernel
theorem d_M_share_5 : decode b_M_share 5 = .ok (.aload_n 0, 1) := by decide +kernel
theorem d_M_share_6 : decode b_M_share 6 = .ok (.getfield 92, 3) := by decide +kernel
theorem d_M_share_9 : decode b_M_share 9 = .ok (.iconst 2, 1) := by decide +kernel
theorem d_M_share_10 : decode b_M_share 10 = .ok (.if_icmp .lt 11, 3) := by decide +kernel
theorem d_M_share_13 : decode b_M_share 13 = .ok (.aload_n 0, 1) := by decide +kernel
theorem d_M_share_14 : decode b_M_share 14 = .ok (.iload_n 1, 1) := by decide +kernel
theorem d_M_share_15 : decode b_M_share 15 = .ok (.invokevirtual 117, 3) := by decide +kernel
theorem d_M_share_18 : decode b_M_share 18 = .ok (.ifCond .ne 5, 3) := by decide +kernel
theorem d_M_share_21 : decode b_M_share 21 = .ok (.iconst (-1), 1) := by decide +kernel
theorem d_M_share_22 : decode b_M_share 22 = .ok (.ireturn, 1) := by decide +kernel
theorem d_M_share_23 : decode b_M_share 23 = .ok (.iload_n 2, 1) := by decide +kernel
theorem d_M_share_24 : decode b_M_share 24 = .ok (.ifCond .ne 12, 3) := by decide +kernel
theorem d_M_share_27 : decode b_M_share 27 = .ok (.aload_n 0, 1) := by decide +kernel
theorem d_M_share_28 : decode b_M_share 28 = .ok (.getfield 29, 3) := by decide +kernel
theorem d_M_share_31 : decode b_M_share 31 = .ok (.iload_n 1, 1) := by decide +kernel
theorem d_M_share_32 : decode b_M_share 32 = .ok (.iaload, 1) := by decide +kernel
theorem d_M_share_33 : decode b_M_share 33 = .ok (.goto 18, 3) := by decide +kernel
theorem d_M_share_36 : decode b_M_share 36 = .ok (.iload_n 2, 1) := by decide +kernel
theorem d_M_share_37 : decode b_M_share 37 = .ok (.iconst 1, 1) := by decide +kernel
theorem d_M_share_38 : decode b_M_share 38 = .ok (.if_icmp .ne 12, 3) := by decide +kernel
theorem d_M_share_41 : decode b_M_share 41 = .ok (.aload_n 0, 1) := by decide +kernel
theorem d_M_share_42 : decode b_M_share 42 = .ok (.getfield 32, 3) := by decide +kernel
theorem d_M_share_45 : decode b_M_share 45 = .ok (.iload_n 1, 1) := by decide +kernel
theorem d_M_share_46 : decode b_M_share 46 = .ok (.iaload, 1) := by decide +kernel
theorem d_M_share_47 : decode b_M_share 47 = .ok (.goto 4, 3) := by decide +kernel
theorem d_M_share_50 : decode b_M_share 50 = .ok (.iconst (-1), 1) := by decide +kernel
theorem d_M_share_51 : decode b_M_share 51 = .ok (.ireturn, 1) := by decide +kernel
theorem d_M_fits_0 : decode b_M_fits 0 = .ok (.aload_n 0, 1) := by decide +kernel
theorem d_M_fits_1 : decode b_M_fits 1 = .ok (.iconst 0, 1) := by decide +kernel
theorem d_M_fits_2 : decode b_M_fits 2 = .ok (.putfield 85, 3) := by decide +kernel
theorem d_M_fits_5 : decode b_M_fits 5 = .ok (.aload_n 0, 1) := by decide +kernel
theorem d_M_fits_6 : decode b_M_fits 6 = .ok (.getfield 92, 3) := by decide +kernel
theorem d_M_fits_9 : decode b_M_fits 9 = .ok (.iconst 2, 1) := by decide +kernel
theorem d_M_fits_10 : decode b_M_fits 10 = .ok (.if_icmp .lt 35, 3) := by decide +kernel
theorem d_M_fits_13 : decode b_M_fits 13 = .ok (.aload_n 0, 1) := by decide +kernel
theorem d_M_fits_14 : decode b_M_fits 14 = .ok (.iload_n 1, 1) := by decide +kernel
theorem d_M_fits_15 : decode b_M_fits 15 = .ok (.invokevirtual 117, 3) := by decide +kernel
theorem d_M_fits_18 : decode b_M_fits 18 = .ok (.ifCond .eq 27, 3) := by decide +kernel
theorem d_M_fits_21 : decode b_M_fits 21 = .ok (.aload_n 0, 1) := by decide +kernel
theorem d_M_fits_22 : decode b_M_fits 22 = .ok (.iload_n 1, 1) := by decide +kernel
theorem d_M_fits_23 : decode b_M_fits 23 = .ok (.aload_n 0, 1) := by decide +kernel
theorem d_M_fits_24 : decode b_M_fits 24 = .ok (.getfield 29, 3) := by decide +kernel
theorem d_M_fits_27 : decode b_M_fits 27 = .ok (.iload_n 1, 1) := by decide +kernel
theorem d_M_fits_28 : decode b_M_fits 28 = .ok (.iaload, 1) := by decide +kernel
theorem d_M_fits_29 : decode b_M_fits 29 = .ok (.aload_n 0, 1) := by decide +kernel
theorem d_M_fits_30 : decode b_M_fits 30 = .ok (.getfield 32, 3) := by decide +kernel
theorem d_M_fits_33 : decode b_M_fits 33 = .ok (.iload_n 1, 1) := by decide +kernel
theorem d_M_fits_34 : decode b_M_fits 34 = .ok (.iaload, 1) := by decide +kernel
theorem d_M_fits_35 : decode b_M_fits 35 = .ok (.invokevirtual 110, 3) := by decide +kernel
theorem d_M_fits_38 : decode b_M_fits 38 = .ok (.ifCond .eq 7, 3) := by decide +kernel
theorem d_M_fits_41 : decode b_M_fits 41 = .ok (.iconst 1, 1) := by decide +kernel
theorem d_M_fits_42 : decode b_M_fits 42 = .ok (.goto 4, 3) := by decide +kernel
theorem d_M_fits_45 : decode b_M_fits 45 = .ok (.iconst 0, 1) := by decide +kernel
theorem d_M_fits_46 : decode b_M_fits 46 = .ok (.ireturn, 1) := by decide +kernel
theorem d_M_complaints_0 : decode b_M_complaints 0 = .ok (.aload_n 0, 1) := by decide +kernel
theorem d_M_complaints_1 : decode b_M_complaints 1 = .ok (.iconst 0, 1) := by decide +kernel
theorem d_M_complaints_2 : decode b_M_complaints 2 = .ok (.putfield 85, 3) := by decide +kernel
theorem d_M_complaints_5 : decode b_M_complaints 5 = .ok (.iconst 0, 1) := by decide +kernel
theorem d_M_complaints_6 : decode b_M_complaints 6 = .ok (.istore_n 1, 1) := by decide +kernel
theorem d_M_complaints_7 : decode b_M_complaints 7 = .ok (.iconst 1, 1) := by decide +kernel
theorem d_M_complaints_8 : decode b_M_complaints 8 = .ok (.istore_n 2, 1) := by decide +kernel
theorem d_M_complaints_9 : decode b_M_complaints 9 = .ok (.iload_n 2, 1) := by decide +kernel
theorem d_M_complaints_10 : decode b_M_complaints 10 = .ok (.aload_n 0, 1) := by decide +kernel
theorem d_M_complaints_11 : decode b_M_complaints 11 = .ok (.getfield 82, 3) := by decide +kernel
theorem d_M_complaints_14 : decode b_M_complaints 14 = .ok (.if_icmp .gt 33, 3) := by decide +kernel
theorem d_M_complaints_17 : decode b_M_complaints 17 = .ok (.aload_n 0, 1) := by decide +kernel
theorem d_M_complaints_18 : decode b_M_complaints 18 = .ok (.getfield 92, 3) := by decide +kernel
theorem d_M_complaints_21 : decode b_M_complaints 21 = .ok (.ifCond .le 26, 3) := by decide +kernel
theorem d_M_complaints_24 : decode b_M_complaints 24 = .ok (.aload_n 0, 1) := by decide +kernel
theorem d_M_complaints_25 : decode b_M_complaints 25 = .ok (.getfield 23, 3) := by decide +kernel
theorem d_M_complaints_28 : decode b_M_complaints 28 = .ok (.iload_n 2, 1) := by decide +kernel
theorem d_M_complaints_29 : decode b_M_complaints 29 = .ok (.baload, 1) := by decide +kernel
theorem d_M_complaints_30 : decode b_M_complaints 30 = .ok (.ifCond .eq 9, 3) := by decide +kernel
theorem d_M_complaints_33 : decode b_M_complaints 33 = .ok (.iload_n 1, 1) := by decide +kernel
theorem d_M_complaints_34 : decode b_M_complaints 34 = .ok (.iconst 1, 1) := by decide +kernel
theorem d_M_complaints_35 : decode b_M_complaints 35 = .ok (.iadd, 1) := by decide +kernel
theorem d_M_complaints_36 : decode b_M_complaints 36 = .ok (.goto 4, 3) := by decide +kernel
theorem d_M_complaints_39 : decode b_M_complaints 39 = .ok (.iload_n 1, 1) := by decide +kernel
theorem d_M_complaints_40 : decode b_M_complaints 40 = .ok (.istore_n 1, 1) := by decide +kernel
theorem d_M_complaints_41 : decode b_M_complaints 41 = .ok (.iinc 2 1, 3) := by decide +kernel
theorem d_M_complaints_44 : decode b_M_complaints 44 = .ok (.goto (-35), 3) := by decide +kernel
theorem d_M_complaints_47 : decode b_M_complaints 47 = .ok (.iload_n 1, 1) := by decide +kernel
theorem d_M_complaints_48 : decode b_M_complaints 48 = .ok (.ireturn, 1) := by decide +kernel
theorem d_M_opened_0 : decode b_M_opened 0 = .ok (.aload_n 0, 1) := by decide +kernel
theorem d_M_opened_1 : decode b_M_opened 1 = .ok (.iconst 0, 1) := by decide +kernel
theorem d_M_opened_2 : decode b_M_opened 2 = .ok (.putfield 85, 3) := by decide +kernel
theorem d_M_opened_5 : decode b_M_opened 5 = .ok (.iconst 0, 1) := by decide +kernel
theorem d_M_opened_6 : decode b_M_opened 6 = .ok (.istore_n 1, 1) := by decide +kernel
theorem d_M_opened_7 : decode b_M_opened 7 = .ok (.iconst 1, 1) := by decide +kernel
theorem d_M_opened_8 : decode b_M_opened 8 = .ok (.istore_n 2, 1) := by decide +kernel
theorem d_M_opened_9 : decode b_M_opened 9 = .ok (.iload_n 2, 1) := by decide +kernel
theorem d_M_opened_10 : decode b_M_opened 10 = .ok (.aload_n 0, 1) := by decide +kernel
theorem d_M_opened_11 : decode b_M_opened 11 = .ok (.getfield 82, 3) := by decide +kernel
theorem d_M_opened_14 : decode b_M_opened 14 = .ok (.if_icmp .gt 33, 3) := by decide +kernel
theorem d_M_opened_17 : decode b_M_opened 17 = .ok (.aload_n 0, 1) := by decide +kernel
theorem d_M_opened_18 : decode b_M_opened 18 = .ok (.getfield 92, 3) := by decide +kernel
theorem d_M_opened_21 : decode b_M_opened 21 = .ok (.ifCond .le 26, 3) := by decide +kernel
theorem d_M_opened_24 : decode b_M_opened 24 = .ok (.aload_n 0, 1) := by decide +kernel
theorem d_M_opened_25 : decode b_M_opened 25 = .ok (.getfield 35, 3) := by decide +kernel
theorem d_M_opened_28 : decode b_M_opened 28 = .ok (.iload_n 2, 1) := by decide +kernel
theorem d_M_opened_29 : decode b_M_opened 29 = .ok (.baload, 1) := by decide +kernel
theorem d_M_opened_30 : decode b_M_opened 30 = .ok (.ifCond .eq 9, 3) := by decide +kernel
theorem d_M_opened_33 : decode b_M_opened 33 = .ok (.iload_n 1, 1) := by decide +kernel
theorem d_M_opened_34 : decode b_M_opened 34 = .ok (.iconst 1, 1) := by decide +kernel
theorem d_M_opened_35 : decode b_M_opened 35 = .ok (.iadd, 1) := by decide +kernel
theorem d_M_opened_36 : decode b_M_opened 36 = .ok (.goto 4, 3) := by decide +kernel
theorem d_M_opened_39 : decode b_M_opened 39 = .ok (.iload_n 1, 1) := by decide +kernel
theorem d_M_opened_40 : decode b_M_opened 40 = .ok (.istore_n 1, 1) := by decide +kernel
theorem d_M_opened_41 : decode b_M_opened 41 = .ok (.iinc 2 1, 3) := by decide +kernel
theorem d_M_opened_44 : decode b_M_opened 44 = .ok (.goto (-35), 3) := by decide +kernel
theorem d_M_opened_47 : decode b_M_opened 47 = .ok (.iload_n 1, 1) := by decide +kernel
theorem d_M_opened_48 : decode b_M_opened 48 = .ok (.ireturn, 1) := by decide +kernel
end
section
-- DRAFT, never compiled: powers by squaring, primes, Fermat. Names mz_
/-- one turn of the squaring loop -/
theorem mz_step (m r s n : Nat) : ((if n % 2 = 1 then r * s % m else r) * (s * s % m) ^ (n / 2)) % m = (r * s ^ n) % m := by
  have hn : 2 * (n / 2) + n % 2 = n := Nat.div_add_mod n 2
  have e1 : ∀ a : Nat, (a * (s * s % m) ^ (n / 2)) % m = (a * (s * s) ^ (n / 2)) % m := fun a => by
    rw [Nat.mul_mod, ← Nat.pow_mod, ← Nat.mul_mod]
  have e2 : s ^ n = (s * s) ^ (n / 2) * s ^ (n % 2) := by
    rw [← Nat.pow_two, ← Nat.pow_mul, ← Nat.pow_add, hn]
  rw [e1, e2]
  by_cases h : n % 2 = 1
  · rw [if_pos h, h, Nat.pow_one, Nat.mul_mod, Nat.mod_mod, ← Nat.mul_mod]
    congr 1
    rw [Nat.mul_assoc, Nat.mul_comm s]
  · have h0 : n % 2 = 0 := by omega
    rw [if_neg h, h0, Nat.pow_zero, Nat.mul_one]
/-- x is a prime number, as trial division finds it -/
def mz_P (x : Nat) : Prop := 2 ≤ x ∧ ∀ d : Nat, 2 ≤ d → d * d ≤ x → ¬ d ∣ x
theorem mz_P.only {x : Nat} (h : mz_P x) {d : Nat} (hd : d ∣ x) : d = 1 ∨ d = x := by
  obtain ⟨e, he⟩ := hd
  have hx := h.1
  rcases Nat.lt_or_ge d 2 with h1 | h1
  · rcases (show d = 0 ∨ d = 1 by omega) with rfl | rfl
    · simp at he; omega
    · exact Or.inl rfl
  rcases Nat.lt_or_ge e 2 with h2 | h2
  · rcases (show e = 0 ∨ e = 1 by omega) with rfl | rfl
    · simp at he; omega
    · right; simpa using he.symm
  rcases Nat.le_total d e with h3 | h3
  · exact absurd ⟨e, he⟩ (h.2 d h1 (by rw [he]; exact Nat.mul_le_mul_left d h3))
  · exact absurd ⟨d, by rw [he, Nat.mul_comm]⟩ (h.2 e h2 (by rw [he]; exact Nat.mul_le_mul_right e h3))
theorem mz_P.coprime {x : Nat} (h : mz_P x) {k : Nat} (h0 : ¬ x ∣ k) : Nat.Coprime x k := by
  rcases h.only (Nat.gcd_dvd_left x k) with e | e
  · exact e
  · exact absurd (by rw [← e]; exact Nat.gcd_dvd_right x k) h0
/-- Pascal's triangle -/
def mz_ch : Nat → Nat → Nat
  | _, 0 => 1
  | 0, _ + 1 => 0
  | n + 1, k + 1 => mz_ch n k + mz_ch n (k + 1)
theorem mz_ch_big : ∀ (n k : Nat), n < k → mz_ch n k = 0
  | 0, k + 1, _ => rfl
  | n + 1, k + 1, h => by
    rw [mz_ch, mz_ch_big n k (by omega), mz_ch_big n (k + 1) (by omega)]
theorem mz_ch_self : ∀ n : Nat, mz_ch n n = 1
  | 0 => rfl
  | n + 1 => by rw [mz_ch, mz_ch_self n, mz_ch_big n (n + 1) (by omega)]
theorem mz_ch_0 (n : Nat) : mz_ch n 0 = 1 := by cases n <;> rfl
/-- (k + 1) * C(n + 1, k + 1) = (n + 1) * C(n, k) -/
theorem mz_ch_mul : ∀ (n k : Nat), (k + 1) * mz_ch (n + 1) (k + 1) = (n + 1) * mz_ch n k
  | 0, 0 => rfl
  | 0, k + 1 => by simp [mz_ch]
  | n + 1, 0 => by
    have h := mz_ch_mul n 0
    have e1 : mz_ch (n + 1 + 1) (0 + 1) = mz_ch (n + 1) 0 + mz_ch (n + 1) (0 + 1) := rfl
    rw [mz_ch_0] at h
    rw [e1, mz_ch_0]
    omega
  | n + 1, k + 1 => by
    have h1 := mz_ch_mul n k
    have h2 := mz_ch_mul n (k + 1)
    rw [mz_ch]
    have h3 : mz_ch (n + 1) (k + 1) = mz_ch n k + mz_ch n (k + 1) := rfl
    grind
/-- the sum of C(n, k) * a^k for k < m -/
def mz_bs (n a : Nat) : Nat → Nat
  | 0 => 0
  | m + 1 => mz_bs n a m + mz_ch n m * a ^ m
theorem mz_bs_up (n a : Nat) : ∀ m : Nat, mz_bs (n + 1) a (m + 1) = a * mz_bs n a m + mz_bs n a (m + 1)
  | 0 => by simp [mz_bs, mz_ch, mz_ch_0]
  | m + 1 => by
    have h := mz_bs_up n a m
    have e1 : mz_bs (n + 1) a (m + 1 + 1) = mz_bs (n + 1) a (m + 1) + mz_ch (n + 1) (m + 1) * a ^ (m + 1) := rfl
    have e2 : mz_bs n a (m + 1 + 1) = mz_bs n a (m + 1) + mz_ch n (m + 1) * a ^ (m + 1) := rfl
    have e3 : mz_bs n a (m + 1) = mz_bs n a m + mz_ch n m * a ^ m := rfl
    have e4 : mz_ch (n + 1) (m + 1) = mz_ch n m + mz_ch n (m + 1) := rfl
    have e5 : a ^ (m + 1) = a ^ m * a := Nat.pow_succ a m
    rw [e1, h, e2, e4, e5]
    grind
theorem mz_binom (a : Nat) : ∀ n : Nat, (a + 1) ^ n = mz_bs n a (n + 1)
  | 0 => by simp [mz_bs, mz_ch]
  | n + 1 => by
    have h := mz_binom a n
    rw [mz_bs_up, ← h]
    have e2 : mz_bs n a (n + 1 + 1) = mz_bs n a (n + 1) + mz_ch n (n + 1) * a ^ (n + 1) := rfl
    rw [e2, mz_ch_big n (n + 1) (by omega), ← h, Nat.pow_succ]
    grind
theorem mz_ch_dvd {q : Nat} (hq : mz_P q) {k : Nat} (h0 : 0 < k) (hk : k < q) : q ∣ mz_ch q k := by
  obtain ⟨n, rfl⟩ : ∃ n, q = n + 1 := ⟨q - 1, by have := hq.1; omega⟩
  obtain ⟨j, rfl⟩ : ∃ j, k = j + 1 := ⟨k - 1, by omega⟩
  have h := mz_ch_mul n j
  have hc : Nat.Coprime (n + 1) (j + 1) := hq.coprime fun hd => by
    have := Nat.le_of_dvd (by omega) hd
    omega
  exact hc.dvd_of_dvd_mul_left (by rw [h]; exact Nat.dvd_mul_right _ _)
theorem mz_bs_mod {q : Nat} (hq : mz_P q) (a : Nat) : ∀ m : Nat, m < q → mz_bs q a (m + 1) % q = 1 % q
  | 0, _ => by simp [mz_bs, mz_ch_0]
  | m + 1, h => by
    have e : mz_bs q a (m + 1 + 1) = mz_bs q a (m + 1) + mz_ch q (m + 1) * a ^ (m + 1) := rfl
    have hd : mz_ch q (m + 1) * a ^ (m + 1) % q = 0 := Nat.mod_eq_zero_of_dvd (Nat.dvd_mul_right_of_dvd (mz_ch_dvd hq (by omega) h) _)
    rw [e, Nat.add_mod, hd, mz_bs_mod hq a m (by omega), Nat.add_zero, Nat.mod_mod]
theorem mz_fermat {q : Nat} (hq : mz_P q) : ∀ a : Nat, a ^ q % q = a % q
  | 0 => by
    have := hq.1
    rw [Nat.zero_pow (by omega)]
  | a + 1 => by
    have h2 := hq.1
    have e : mz_bs q a (q + 1) = mz_bs q a q + mz_ch q q * a ^ q := rfl
    have e1 : mz_bs q a q % q = 1 % q := by
      have := mz_bs_mod hq a (q - 1) (by omega)
      rwa [Nat.sub_add_cancel (by omega)] at this
    rw [mz_binom, e, mz_ch_self, Nat.one_mul, Nat.add_mod, e1, mz_fermat hq a, ← Nat.add_mod, Nat.add_comm]
/-- the inverse: y * y^(q - 2) is 1 -/
theorem mz_inv {q : Nat} (hq : mz_P q) {y : Nat} (hy : ¬ q ∣ y) : y * y ^ (q - 2) % q = 1 := by
  have h2 := hq.1
  have e : y * y ^ (q - 2) = y ^ (q - 1) := by
    rw [Nat.mul_comm, ← Nat.pow_succ]
    congr 1
    omega
  have e2 : y * y ^ (q - 1) = y ^ q := by
    rw [Nat.mul_comm, ← Nat.pow_succ]
    congr 1
    omega
  have hf := mz_fermat hq y
  rw [e]
  -- q divides y * (y^(q-1) - 1)
  have hpos : 0 < y := Nat.pos_of_ne_zero fun h => hy (by rw [h]; exact Nat.dvd_zero q)
  have h1 : 1 ≤ y ^ (q - 1) := Nat.pow_pos hpos
  have hle : y ≤ y ^ q := by rw [← e2]; exact Nat.le_mul_of_pos_right y h1
  have hd : q ∣ y ^ q - y := Nat.dvd_of_mod_eq_zero (Nat.sub_mod_eq_zero_of_mod_eq hf)
  have hd2 : q ∣ y * (y ^ (q - 1) - 1) := by rw [Nat.mul_sub, e2, Nat.mul_one]; exact hd
  have hd3 : q ∣ y ^ (q - 1) - 1 := (hq.coprime hy).dvd_of_dvd_mul_left hd2
  obtain ⟨z, hz⟩ := hd3
  have : y ^ (q - 1) = 1 + q * z := by omega
  rw [this, Nat.add_mul_mod_self_left, Nat.mod_eq_of_lt (by omega)]
end
section
/-! the polynomial's value, and the product of powers, from either end -/
def mz_pv (f : Nat → Nat) (i : Nat) : Nat → Nat → Nat
  | _, 0 => 0
  | j, n + 1 => f j + i * mz_pv f i (j + 1) n
def mz_ps (f : Nat → Nat) (i : Nat) : Nat → Nat
  | 0 => 0
  | n + 1 => mz_ps f i n + f n * i ^ n
theorem mz_pv_last (f : Nat → Nat) (i : Nat) : ∀ n j : Nat, mz_pv f i j (n + 1) = mz_pv f i j n + f (j + n) * i ^ n
  | 0, j => by simp [mz_pv]
  | n + 1, j => by
    have h := mz_pv_last f i n (j + 1)
    have e : mz_pv f i j (n + 1 + 1) = f j + i * mz_pv f i (j + 1) (n + 1) := rfl
    have e2 : mz_pv f i j (n + 1) = f j + i * mz_pv f i (j + 1) n := rfl
    rw [e, h, e2, show j + 1 + n = j + (n + 1) by omega, Nat.pow_succ]
    grind
theorem mz_pv_ps (f : Nat → Nat) (i : Nat) : ∀ n : Nat, mz_pv f i 0 n = mz_ps f i n
  | 0 => rfl
  | n + 1 => by
    rw [mz_pv_last, mz_pv_ps f i n, Nat.zero_add]
    rfl
def mz_cp (c : Nat → Nat) (i : Nat) : Nat → Nat → Nat
  | _, 0 => 1
  | j, n + 1 => c j * (mz_cp c i (j + 1) n) ^ i
def mz_cs (c : Nat → Nat) (i : Nat) : Nat → Nat
  | 0 => 1
  | n + 1 => mz_cs c i n * c n ^ (i ^ n)
theorem mz_cp_last (c : Nat → Nat) (i : Nat) : ∀ n j : Nat, mz_cp c i j (n + 1) = mz_cp c i j n * c (j + n) ^ (i ^ n)
  | 0, j => by simp [mz_cp]
  | n + 1, j => by
    have h := mz_cp_last c i n (j + 1)
    have e : mz_cp c i j (n + 1 + 1) = c j * (mz_cp c i (j + 1) (n + 1)) ^ i := rfl
    have e2 : mz_cp c i j (n + 1) = c j * (mz_cp c i (j + 1) n) ^ i := rfl
    rw [e, h, e2, Nat.mul_pow, ← Nat.pow_mul, ← Nat.pow_succ, show j + 1 + n = j + (n + 1) by omega, Nat.mul_assoc]
theorem mz_cp_cs (c : Nat → Nat) (i : Nat) : ∀ n : Nat, mz_cp c i 0 n = mz_cs c i n
  | 0 => rfl
  | n + 1 => by
    rw [mz_cp_last, mz_cp_cs c i n, Nat.zero_add]
    rfl
/-- one turn of Horner's rule modulo q -/
theorem mz_horner (q i v a : Nat) : ((v % q) * i % q + a) % q = (a + i * v) % q := by
  rw [Nat.mod_mul_mod, Nat.mod_add_mod, Nat.add_comm, Nat.mul_comm]
/-- one turn of the powers of powers modulo p -/
theorem mz_powers (p i v c : Nat) : ((v % p) ^ i % p) * c % p = (c * v ^ i) % p := by
  rw [← Nat.pow_mod, Nat.mod_mul_mod, Nat.mul_comm]
/-- one turn of the sum of powers modulo q -/
theorem mz_sumturn (q s a f : Nat) : ((s % q) + (a * (f % q) % q)) % q = (s + a * f) % q := by
  rw [Nat.mul_mod_mod, ← Nat.add_mod]
/-- x modulo q, never negative -/
def md (x : Int32) (q : Nat) : Nat := (x.toInt % (q : Int)).toNat
theorem md_lt (x : Int32) {q : Nat} (h : 0 < q) : md x q < q := by
  have h1 := Int.emod_lt_of_pos x.toInt (show (0 : Int) < q by omega)
  have h2 := Int.emod_nonneg x.toInt (show (q : Int) ≠ 0 by omega)
  unfold md
  omega
/-- the remainder of Java's % is negative where x is, and then q less than ours -/
theorem md_rem {x : Int32} {q : Nat} (h : 0 < q) (hq : q < 2 ^ 31) : (¬ (x - x / nI q * nI q) < 0 → x - x / nI q * nI q = nI (md x q)) ∧ ((x - x / nI q * nI q) < 0 → x - x / nI q * nI q + nI q = nI (md x q)) := by
  have hq' : (nI q).toInt = (q : Int) := nI_toInt hq
  have hr : (x - x / nI q * nI q).toInt = x.toInt.tmod q := by rw [rem_toInt, hq']
  have hm := md_lt x h
  have hb := tmod_bounds (a := x.toInt) (show (0 : Int) < q by omega)
  have he2 := Int.emod_nonneg x.toInt (show (q : Int) ≠ 0 by omega)
  have h0 : (0 : Int32).toInt = 0 := by decide
  have ht : x.toInt.tmod q = if 0 ≤ x.toInt.tmod q then x.toInt % q else x.toInt % q - q := by
    have ha := Int.emod_emod_of_dvd x.toInt (Int.dvd_refl (q : Int))
    have hk : (x.toInt.tmod q) % q = x.toInt % q := by
      have := Int.mul_tdiv_add_tmod x.toInt q
      have h3 : x.toInt.tmod q = x.toInt - q * x.toInt.tdiv q := by omega
      rw [h3, Int.sub_mul_emod_self_left]
    by_cases c : 0 ≤ x.toInt.tmod q
    · rw [if_pos c, ← hk, Int.emod_eq_of_lt c hb.2]
    · rw [if_neg c]
      have h4 : (x.toInt.tmod q + q) % q = x.toInt.tmod q + q := Int.emod_eq_of_lt (by omega) (by omega)
      rw [Int.add_emod_right, hk] at h4
      omega
  refine ⟨fun c => Int32.toInt_inj.mp ?_, fun c => Int32.toInt_inj.mp ?_⟩
  · rw [Int32.lt_iff_toInt_lt, hr, h0] at c
    rw [hr, ht, if_pos (by omega), nI_toInt (by omega)]
    unfold md
    omega
  · rw [Int32.lt_iff_toInt_lt, hr, h0] at c
    have h5 : (x - x / nI q * nI q + nI q).toInt = (x - x / nI q * nI q).toInt + (nI q).toInt := Jvm.Kit.i32_add (by rw [hr, hq']; omega) (by rw [hr, hq']; omega)
    rw [h5, hr, hq', ht, if_neg (by omega), nI_toInt (by omega)]
    unfold md
    omega
/-- the sign of r ^ y where y is not negative -/
theorem md_xor {r y : Int32} (hy : ¬ y < 0) : (r ^^^ y) < 0 ↔ r < 0 := by
  have key : ∀ z : Int32, z < 0 ↔ z.toBitVec.msb = true := fun z => by
    rw [Int32.lt_iff_toInt_lt, BitVec.msb_eq_toInt]
    simp
  rw [key] at hy
  rw [key, key, Int32.toBitVec_xor, BitVec.msb_xor]
  cases h : y.toBitVec.msb
  · simp
  · exact absurd h hy
theorem md_subI {x y q : Nat} (hq : q < 2 ^ 31) (hx : x < q) (hy : y < q) : (nI x - nI y).toInt = (x : Int) - y := by
  have h1 := nI_toInt (n := x) (by omega)
  have h2 := nI_toInt (n := y) (by omega)
  rw [Jvm.Kit.i32_sub (by rw [h1, h2]; omega) (by rw [h1, h2]; omega), h1, h2]
theorem md_subN {x y q : Nat} (hq : q < 2 ^ 31) (hx : x < q) (hy : y < q) : md (nI x - nI y) q = if y ≤ x then x - y else x + q - y := by
  unfold md
  rw [md_subI hq hx hy]
  by_cases c : y ≤ x
  · rw [if_pos c, Int.emod_eq_of_lt (by omega) (by omega)]
    omega
  · rw [if_neg c]
    have h4 : ((x : Int) - y + q) % q = (x : Int) - y + q := Int.emod_eq_of_lt (by omega) (by omega)
    rw [Int.add_emod_right] at h4
    rw [h4]
    omega
theorem md_sub {x y q : Nat} (hq : q < 2 ^ 31) (hx : x < q) (hy : y < q) : (if y ≤ x then nI x - nI y else nI x - nI y + nI q) = nI (md (nI x - nI y) q) := by
  have h1 := md_subI hq hx hy
  rw [md_subN hq hx hy]
  by_cases c : y ≤ x
  · rw [if_pos c, if_pos c, pk_sub c]
  · rw [if_neg c, if_neg c]
    apply Int32.toInt_inj.mp
    have h2 := nI_toInt (n := q) hq
    rw [Jvm.Kit.i32_add (by rw [h1, h2]; omega) (by rw [h1, h2]; omega), h1, h2, nI_toInt (by omega)]
    omega
/-- the sign of Java's remainder -/
theorem md_sign {x : Int32} {q : Nat} (h : 0 < q) (hq : q < 2 ^ 31) : (¬ x < 0 → ¬ (x - x / nI q * nI q) < 0) ∧ (x < 0 → ¬ (x - x / nI q * nI q) = 0 → (x - x / nI q * nI q) < 0) := by
  have hq' : (nI q).toInt = (q : Int) := nI_toInt hq
  have hr : (x - x / nI q * nI q).toInt = x.toInt.tmod q := by rw [rem_toInt, hq']
  have h0 : (0 : Int32).toInt = 0 := by decide
  refine ⟨fun c => ?_, fun c hz => ?_⟩
  · rw [Int32.lt_iff_toInt_lt, h0] at c
    rw [Int32.lt_iff_toInt_lt, h0, hr]
    have h1 := Int.tmod_nonneg (q : Int) (show 0 ≤ x.toInt by omega)
    omega
  · rw [Int32.lt_iff_toInt_lt, h0] at c
    rw [Int32.lt_iff_toInt_lt, h0, hr]
    have h1 := Int.tmod_nonneg (q : Int) (show 0 ≤ -x.toInt by omega)
    rw [Int.neg_tmod] at h1
    have h2 : x.toInt.tmod q ≠ 0 := fun e => hz (Int32.toInt_inj.mp (by rw [hr, e, h0]))
    omega
end
section
/-! ===== BEGIN words of one list among another's, by their places ===== -/
theorem goodIn_r {big : List Cond} (ws : List Cond) (ps : List Nat) (hp : ws = ps.filterMap (fun i => big[i]?)) (h : ws.all goodWord = true) : GoodIn big ws := by
  intro w hw
  have h1 := List.all_eq_true.mp h w hw
  rw [hp] at hw
  obtain ⟨i, -, hi⟩ := List.mem_filterMap.mp hw
  have hm : w ∈ big := by first | exact List.mem_of_getElem? hi | exact List.getElem?_mem hi
  exact ⟨hm, good_of_word h1⟩
theorem goodIn_app {big a b : List Cond} (ha : GoodIn big a) (hb : GoodIn big b) : GoodIn big (a ++ b) := fun w h => (List.mem_append.mp h).elim (ha w) (hb w)
theorem goodIn_ca {big a b : List Cond} {c : Cond} (ha : GoodIn big (c :: a)) (hb : GoodIn big b) : GoodIn big (c :: (a ++ b)) := fun w h => (List.mem_cons.mp h).elim (fun e => ha w (List.mem_cons.mpr (Or.inl e))) (fun h => (List.mem_append.mp h).elim (fun h => ha w (List.mem_cons.mpr (Or.inr h))) (hb w))
theorem goodIn_sub {big ws : List Cond} (hm : ∀ w ∈ ws, w ∈ big) (h : ws.all goodWord = true) : GoodIn big ws := fun w hw => ⟨hm w hw, good_of_word (List.all_eq_true.mp h w hw)⟩
/-! ===== END ===== -/

/-! ===== BEGIN exceptions that leave a method, and their catching by the caller (launches without stack traces) ===== -/
section VXA
/-! The laws vx_back, vx_callV, vx_callS, vx_callSW, vx_throw0, vx_throwS follow proofs of the library, with one case more: JvmDerived/Free/Laws.lean (Back.of_free), Shelf42/LK1.lean (callV, callS), Shelf/KitTraced.lean (throwNew0V, throwNewS). -/
/-- where a method has thrown q: the class by its name, the cell, what was written, the world -/
def vx_T (XC : String → State → State → Prop) (st : State) (q : Addr) (t : State) (mc ms : Nat) (free : Addr → Prop) : Prop :=
  ∃ (E : String) (ce : Cell) (L : List Loc), XC E st t ∧ t.heap[q]? = some ce ∧ ce.vm = .none ∧ st.vm.findClass E = some ce.cls ∧ st.WarmedH t.vm ∧ st.sameButNew ({ t with vm := st.vm } : State) L mc ms ∧ ∀ z ∈ L, free z.base
def vx_Q (Qc : Array Value → State → Outcome → State → Prop) (XC : String → State → State → Prop) (mc ms : Nat) (free : Addr → Prop) : Array Value → State → Outcome → State → Prop := fun a st o t =>
  (Qc a st o t ∧ ∃ L, FrameEnd st o t L mc ms ∧ ∀ q ∈ L, free q.base) ∨ ∃ q, o = .threw q ∧ vx_T XC st q t mc ms free
/-- a callee that returns or throws -/
def vx_Met (l : Launch) (y : MethodName) (ws : List Cond) (rm : Room) (Pc : Array Value → State → Prop) (Qc : Array Value → State → Outcome → State → Prop) (XC : String → State → State → Prop) (mc ms : Nat) (free : Addr → Prop) : Prop :=
  MetFree l y (headSpec ws rm) Pc (fun _ _ _ _ _ => True) (vx_Q Qc XC mc ms free)
def vx_Post (XC : String → State → State → Prop) (mc ms : Nat) (free : Addr → Prop) : Pt → Array Value → Addr → Pt → Prop := fun A a q B =>
  ∃ (g : JFrame) (mk : MethodId) (t : State) (L : List Loc) (E : String) (ce : Cell), B.U.heap = t.heap ∧ B.U.vm = t.vm ∧ XC E (A.U.calling g mk a) t ∧ t.heap[q]? = some ce ∧ ce.vm = .none ∧ A.U.vm.findClass E = some ce.cls ∧ B.locs = A.locs ++ L ∧ (∀ z ∈ L, free z.base) ∧ B.cells = A.cells + mc ∧ B.slots = A.slots + ms
def vx_Back (l : Launch) (R : Room) (p : Program) (e : Env) (below : List Frame) (s : State) (sargs : Array Value) (y : MethodName) (len W9 : Nat)
    (Pre : Pt → Array Value → Prop) (Post : Pt → Array Value → Option Value → Pt → Prop) (PostX : Pt → Array Value → Addr → Pt → Prop) : Prop :=
  ∀ (m : MethodId) (meth : Method) (c : Code) (A : Pt) (g : JFrame) (ig : Instr) (mk : MethodId) (a : Array Value),
    Stand p l e R s m sargs below meth c A.U A.locs A.cells A.slots → g.method = m → g.locals.size = c.maxLocals → decode c.code g.pc = .ok (ig, len) →
    2 * g.monitorRoom + (g.stack.map fun v => v.category).sum ≤ W9 → A.U.methodNamed? y = some mk → Pre A a →
    (∃ (v : Option Value) (B : Pt), Stand p l e R s m sargs below meth c B.U B.locs B.cells B.slots ∧ Post A a v B ∧
      Steps p.tables e below (doInvoke e (A.U.setTop g) [] mk a).1 (B.U.setTop { g with pc := g.pc + len, stack := v.toList ++ g.stack })) ∨
    (∃ (q : Addr) (B : Pt), Stand p l e R s m sargs below meth c B.U B.locs B.cells B.slots ∧ PostX A a q B ∧
      Steps p.tables e below (doInvoke e (A.U.setTop g) [] mk a).1 ((B.U.setTop g).pushFrame (.throwing q)))
section Payer
variable {l : Launch} {R : Room} {p : Program} {e : Env} {below : List Frame} {s : State} {sargs : Array Value} {y : MethodName} {len W9 : Nat}
theorem vx_back {ws : List Cond} {rm : Room} {Pc : Array Value → State → Prop} {Qc : Array Value → State → Outcome → State → Prop} {XC : String → State → State → Prop} {mc ms : Nat} {free : Addr → Prop} {bytes : ByteArray} {maxL : Nat} {ret : Option FieldType}
    (hM : vx_Met l y ws rm Pc Qc XC mc ms free) (hblind : FrameBlind Pc) (hrc : rm.cells = mc) (hrs : rm.slots = ms)
    (hframes : rm.frames + 1 ≤ R.frames) (hlocals : W9 + (maxL + 11) + rm.locals ≤ R.locals)
    (hws : ∀ w ∈ ws, ∀ a' U, s.WarmedH U.vm → w.before a' U = true) (hcode : Cond.code y bytes maxL ret ∈ ws) (hinit : ∀ a' U, s.WarmedH U.vm → (Cond.initialized y.cls).before a' U = true) :
    vx_Back l R p e below s sargs y len W9 (PreOf R mc ms Pc) (PostOf Qc mc ms free) (vx_Post XC mc ms free) := by
  intro m meth c A g ig mk a X hg hsize hdg hW hn hp
  have h1 : (headSpec ws rm).pre.before a A.U = true := atoms_intro fun w hw => hws w hw _ _ X.warmed
  have h2 : (Cond.code y bytes maxL ret).before a A.U = true := hws _ hcode _ _ X.warmed
  have h3 : (Cond.initialized y.cls).before a A.U = true := hinit _ _ X.warmed
  have h4 : A.cells + (headSpec ws rm).room.cells ≤ R.cells := by rw [show (headSpec ws rm).room.cells = mc from hrc]; exact hp.1
  have h5 : A.slots + (headSpec ws rm).room.slots ≤ R.slots := by rw [show (headSpec ws rm).room.slots = ms from hrs]; exact hp.2.1
  have hPc : Pc a (A.U.calling g mk a) := hblind _ _ _ _ hp.2.2
  obtain ⟨U, Ls, c0, s0⟩ := A
  dsimp only [Pt.U, Pt.locs, Pt.cells, Pt.slots] at h1 h2 h3 h4 h5 X hn hPc ⊢
  obtain ⟨methY, cY, hmY, hcY, -, hlY, -, -, -, -⟩ := Cond.code_spec hn h2
  obtain ⟨kY, hkY, -⟩ := className_of_methodNamed hn
  have hinitY : kY.init = .initialized := Cond.initialized_spec (findClass_of_methodNamed hn) hkY h3
  have h : At U g.method c below := by rw [hg]; exact X.here
  have hlocals9 : W9 + (maxL + 11) + (headSpec ws rm).room.locals ≤ R.locals := hlocals
  have happ : (headSpec ws rm).appliesLoose y e.platform (U.calling g mk a) = true :=
    Spec.appliesLoose_calling (g := g) h hdg hn hkY hinitY
      (X.room_calling (g := g) (R' := (headSpec ws rm).room) hsize hmY hcY hframes (by rw [hlY]; omega) h4 h5) h1
  obtain ⟨mid, hmid⟩ := h.above
  have hfr : (U.setTop g).frames = (.java g :: mid) ++ below := by rw [State.frames_setTop' g h.top, hmid]; rfl
  obtain ⟨o, s₂, hsteps, -, hend, hq⟩ := Steps.callFree hM p X.admits X.cas X.clock (acts := []) hfr happ hPc trivial
  have hq' : vx_Q Qc XC mc ms free a (U.calling g mk a) o s₂ := hq
  rw [State.frames_setTop' g h.top] at hend
  obtain ⟨g₀, hg0⟩ := Option.isSome_iff_exists.mp h.top
  obtain ⟨r, hr⟩ := State.topJava?_eq_some.mp hg0
  have hr' : (({ U with heap := s₂.heap, slotsUsed := s₂.slotsUsed } : State).setVm s₂.vm).frames = .java g₀ :: r := hr
  rcases hq' with ⟨hqc, L, hfe, hL⟩ | ⟨q, rfl, E, ce, L, hx, hce, hcv, hcl, hW₂, hsm, hL⟩
  · obtain ⟨⟨v, rfl⟩, hW₂, e2, q2, q3, q4, q5, q6⟩ := id hfe
    have e3 : s₂ = ({ (U.calling g mk a).setFrames s₂.frames with heap := s₂.heap, slotsUsed := s₂.slotsUsed } : State).setVm s₂.vm := by
      have : s₂ = ({ s₂ with vm := (U.calling g mk a).vm } : State).setVm s₂.vm := rfl
      rw [e2] at this
      exact this
    obtain ⟨c₂, i₂, len₂, hc₂, hd₂, hf₂⟩ := hend
    have hW' : U.WarmedH s₂.vm := hW₂
    have hcc : c₂ = c := by
      have h1 : s₂.code? g.method = U.code? g.method := by
        rw [State.code?_eq, State.code?_eq, hW'.alike.method?]
      exact Option.some.inj (hc₂.symm.trans (h1.trans h.code))
    subst hcc
    have hlen : len₂ = len := by rw [hdg] at hd₂; cases hd₂; rfl
    subst hlen
    have hs₂ : s₂ = (({ U with heap := s₂.heap, slotsUsed := s₂.slotsUsed } : State).setVm s₂.vm).setTop { g with pc := g.pc + len₂, stack := v.toList ++ g.stack } := by
      refine e3.trans ?_
      rw [hf₂, State.calling_eq h.top, State.setFrames_setFrames, State.setTop_of_frames _ hr', hr]
      rfl
    have hsame : U.sameButNew ({ U with heap := s₂.heap, slotsUsed := s₂.slotsUsed } : State) L mc ms := by
      refine ⟨?_, q2, q3, q4, q5, q6⟩
      obtain ⟨t, ht, -⟩ := State.frames_cons hr
      show ({ U with heap := s₂.heap, slotsUsed := s₂.slotsUsed } : State) = { U.setFrames U.frames with heap := s₂.heap, slotsUsed := s₂.slotsUsed }
      rw [State.setFrames_self ht]
    subst hg
    refine Or.inl ⟨v, ⟨(({ U with heap := s₂.heap, slotsUsed := s₂.slotsUsed } : State).setVm s₂.vm), Ls ++ L, c0 + mc, s0 + ms⟩,
      ⟨X.admits, X.cas, X.clock, X.frames, X.room, X.hears, X.method, X.code, (X.here.setHeapUsed s₂.heap s₂.slotsUsed).setVm hW'.alike, X.tail, State.WarmedH.trans X.warmed hW', X.limits, X.bytes, X.same.trans (hsame.setVm s.vm)⟩,
      ⟨g, mk, s₂, L, rfl, rfl, hqc, rfl, hL, rfl, rfl⟩, ?_⟩
    show Steps p.tables e below _ ((({ U with heap := s₂.heap, slotsUsed := s₂.slotsUsed } : State).setVm s₂.vm).setTop { g with pc := g.pc + len₂, stack := v.toList ++ g.stack })
    rw [← hs₂]
    exact hsteps
  · obtain ⟨e2, q2, q3, q4, q5, q6⟩ := id hsm
    have e3 : s₂ = ({ (U.calling g mk a).setFrames s₂.frames with heap := s₂.heap, slotsUsed := s₂.slotsUsed } : State).setVm s₂.vm := by
      have : s₂ = ({ s₂ with vm := (U.calling g mk a).vm } : State).setVm s₂.vm := rfl
      rw [e2] at this
      exact this
    have hf₂ : s₂.frames = .throwing q :: .java g :: U.frames.tail := hend
    have hW' : U.WarmedH s₂.vm := hW₂
    have hs₂ : s₂ = ((({ U with heap := s₂.heap, slotsUsed := s₂.slotsUsed } : State).setVm s₂.vm).setTop g).pushFrame (.throwing q) := by
      refine e3.trans ?_
      rw [hf₂, State.calling_eq h.top, State.setFrames_setFrames, State.pushFrame, State.frames_setTop _ hr', State.setTop_of_frames _ hr', State.setFrames_setFrames, hr]
      rfl
    have hsame : U.sameButNew ({ U with heap := s₂.heap, slotsUsed := s₂.slotsUsed } : State) L mc ms := by
      refine ⟨?_, q2, q3, q4, q5, q6⟩
      obtain ⟨t, ht, -⟩ := State.frames_cons hr
      show ({ U with heap := s₂.heap, slotsUsed := s₂.slotsUsed } : State) = { U.setFrames U.frames with heap := s₂.heap, slotsUsed := s₂.slotsUsed }
      rw [State.setFrames_self ht]
    subst hg
    refine Or.inr ⟨q, ⟨(({ U with heap := s₂.heap, slotsUsed := s₂.slotsUsed } : State).setVm s₂.vm), Ls ++ L, c0 + mc, s0 + ms⟩,
      ⟨X.admits, X.cas, X.clock, X.frames, X.room, X.hears, X.method, X.code, (X.here.setHeapUsed s₂.heap s₂.slotsUsed).setVm hW'.alike, X.tail, State.WarmedH.trans X.warmed hW', X.limits, X.bytes, X.same.trans (hsame.setVm s.vm)⟩,
      ⟨g, mk, s₂, L, E, ce, rfl, rfl, hx, hce, hcv, hcl, rfl, hL, rfl, rfl⟩, ?_⟩
    show Steps p.tables e below _ (((({ U with heap := s₂.heap, slotsUsed := s₂.slotsUsed } : State).setVm s₂.vm).setTop g).pushFrame (.throwing q))
    rw [← hs₂]
    exact hsteps
end Payer
section Calls
variable {p : Program} {l : Launch} {e : Env} {R : Room} {s : State} {m : MethodId} {args : Array Value} {below : List Frame} {meth : Method} {c : Code} {T : State} {locs : List Loc} {cells slots : Nat}
theorem vx_callV (X : Stand p l e R s m args below meth c T locs cells slots) (hexec : p.tables.exec = Jvm.exec) {own C : String} {index : Nat} {y : MethodName} {bytes : ByteArray} {maxL : Nat} {ret : Option FieldType}
    (hown : s.vm.findClass own = some m.cls) (hlink : (Cond.methodLink own index y).before args s = true) (hinst : (Cond.instanceMethod y).before args s = true) (hsel : (Cond.selects C y y).before args s = true)
    (hcode : (Cond.code y bytes maxL ret).before args s = true) (hy : y.cls ≠ "java/lang/invoke/MethodHandle" ∧ y.cls ≠ "java/lang/invoke/VarHandle")
    {W9 : Nat} {Pre : Pt → Array Value → Prop} {Post : Pt → Array Value → Option Value → Pt → Prop} {PostX : Pt → Array Value → Addr → Pt → Prop} (hK : vx_Back l R p e below s args y 3 W9 Pre Post PostX)
    {b : Addr} {cellB : Cell} (hcell : T.heap[b]? = some cellB) (hobj : cellB.vm.isStatics = false) (hcls : s.vm.findClass C = some cellB.cls)
    {g : JFrame} (hg : g.method = m) (hsize : g.locals.size = c.maxLocals) {argsL rest : List Value} (hlen : ∀ sig, parseMethodDescriptor y.desc = some sig → argsL.length = sig.parameters.length)
    (hstack : g.stack = argsL.reverse ++ .ref b :: rest) (hW : 2 * g.monitorRoom + (rest.map fun v => v.category).sum ≤ W9) (hdg : decode c.code g.pc = .ok (.invokevirtual index, 3))
    (hpre : ∀ vm₁, s.WarmedH vm₁ → Pre ⟨T.setVm vm₁, locs, cells, slots⟩ (Value.ref b :: argsL).toArray) :
    (∃ (v : Option Value) (vm₁ : Vm) (B : Pt), s.WarmedH vm₁ ∧ Stand p l e R s m args below meth c B.U B.locs B.cells B.slots ∧ Post ⟨T.setVm vm₁, locs, cells, slots⟩ (Value.ref b :: argsL).toArray v B ∧
      ∀ target, Steps p.tables e below (B.U.setTop { g with pc := g.pc + 3, stack := v.toList ++ rest }) target → Steps p.tables e below (T.setTop g) target) ∨
    (∃ (q : Addr) (vm₁ : Vm) (B : Pt), s.WarmedH vm₁ ∧ Stand p l e R s m args below meth c B.U B.locs B.cells B.slots ∧ PostX ⟨T.setVm vm₁, locs, cells, slots⟩ (Value.ref b :: argsL).toArray q B ∧
      Steps p.tables e below (T.setTop g) ((B.U.setTop { g with stack := rest }).pushFrame (.throwing q))) := by
  obtain ⟨mk, methM, hnamed, hmethM, hstM, habM⟩ := Cond.instanceMethod_spec hinst
  obtain ⟨methM', cM, hmethM', -, -, -, -, -, -, hsigM⟩ := Cond.code_spec hnamed hcode
  cases hmethM.symm.trans hmethM'
  obtain ⟨c2, r2, m2, q1, q2, q3, q4, kP, hkP, hkPi⟩ := Cond.selects_spec hsel
  cases hcls.symm.trans q1
  cases (State.methodFound?_of_named hnamed hy).symm.trans q2
  cases hnamed.symm.trans q3
  have hselP : selectMethod e.platform s.vm cellB.cls mk = .method mk := by rw [Launch.admits_selectMethod X.admits]; exact q4
  obtain ⟨vm₁, X₁, hstep₁⟩ := X.invokevirtual hexec hown hlink hnamed hmethM hstM hkP hkPi hy (a := b) (cell := cellB) hcell
    (fun z h => by rw [h] at hobj; cases hobj) hselP hmethM habM hkP hkPi (g := g) hg (argsL := argsL) (rest := rest) (hlen _ hsigM) hstack hdg
  rcases hK m meth c ⟨T.setVm vm₁, locs, cells, slots⟩ { g with stack := rest } (.invokevirtual index) mk (Value.ref b :: argsL).toArray X₁ hg hsize hdg hW (X₁.named hnamed) (hpre vm₁ X₁.warmed) with ⟨v, B, X', hpost, hsteps⟩ | ⟨q, B, X', hpost, hsteps⟩
  · exact Or.inl ⟨v, vm₁, B, X₁.warmed, X', hpost, fun target h => hstep₁ _ fun acts => by rw [doInvoke_state]; exact hsteps.trans h⟩
  · exact Or.inr ⟨q, vm₁, B, X₁.warmed, X', hpost, hstep₁ _ fun acts => by rw [doInvoke_state]; exact hsteps⟩
theorem vx_callS (X : Stand p l e R s m args below meth c T locs cells slots) (hexec : p.tables.exec = Jvm.exec) {own : String} {index : Nat} {y : MethodName} {bytes : ByteArray} {maxL : Nat} {ret : Option FieldType}
    (hown : s.vm.findClass own = some m.cls) (hlink : (Cond.methodLink own index y).before args s = true) (hstat : (Cond.static y).before args s = true) (hinit : (Cond.initialized y.cls).before args s = true)
    (hcode : (Cond.code y bytes maxL ret).before args s = true) (hy : y.cls ≠ "java/lang/invoke/MethodHandle" ∧ y.cls ≠ "java/lang/invoke/VarHandle")
    {W9 : Nat} {Pre : Pt → Array Value → Prop} {Post : Pt → Array Value → Option Value → Pt → Prop} {PostX : Pt → Array Value → Addr → Pt → Prop} (hK : vx_Back l R p e below s args y 3 W9 Pre Post PostX)
    {g : JFrame} (hg : g.method = m) (hsize : g.locals.size = c.maxLocals) {argsL rest : List Value} (hlen : ∀ sig, parseMethodDescriptor y.desc = some sig → argsL.length = sig.parameters.length)
    (hstack : g.stack = argsL.reverse ++ rest) (hW : 2 * g.monitorRoom + (rest.map fun v => v.category).sum ≤ W9) (hdg : decode c.code g.pc = .ok (.invokestatic index, 3))
    (hpre : ∀ vm₁, s.WarmedH vm₁ → Pre ⟨T.setVm vm₁, locs, cells, slots⟩ argsL.toArray) :
    (∃ (v : Option Value) (vm₁ : Vm) (B : Pt), s.WarmedH vm₁ ∧ Stand p l e R s m args below meth c B.U B.locs B.cells B.slots ∧ Post ⟨T.setVm vm₁, locs, cells, slots⟩ argsL.toArray v B ∧
      ∀ target, Steps p.tables e below (B.U.setTop { g with pc := g.pc + 3, stack := v.toList ++ rest }) target → Steps p.tables e below (T.setTop g) target) ∨
    (∃ (q : Addr) (vm₁ : Vm) (B : Pt), s.WarmedH vm₁ ∧ Stand p l e R s m args below meth c B.U B.locs B.cells B.slots ∧ PostX ⟨T.setVm vm₁, locs, cells, slots⟩ argsL.toArray q B ∧
      Steps p.tables e below (T.setTop g) ((B.U.setTop { g with stack := rest }).pushFrame (.throwing q))) := by
  obtain ⟨mk, hnamed⟩ := Cond.code_named hcode
  obtain ⟨methM, cM, hmethM, -, -, -, -, -, -, hsigM⟩ := Cond.code_spec hnamed hcode
  have hstatic : methM.isStatic = true := Cond.static_spec hnamed hmethM hstat
  obtain ⟨kP, hkP, -⟩ := className_of_methodNamed hnamed
  have hinitP : kP.init = .initialized := Cond.initialized_spec (findClass_of_methodNamed hnamed) hkP hinit
  obtain ⟨vm₁, X₁, hstep₁⟩ := X.invokestatic hexec hown hlink hnamed hmethM hstatic hkP hinitP hy (g := g) hg (argsL := argsL) (rest := rest) (hlen _ hsigM) hstack hdg
  rcases hK m meth c ⟨T.setVm vm₁, locs, cells, slots⟩ { g with stack := rest } (.invokestatic index) mk argsL.toArray X₁ hg hsize hdg hW (X₁.named hnamed) (hpre vm₁ X₁.warmed) with ⟨v, B, X', hpost, hsteps⟩ | ⟨q, B, X', hpost, hsteps⟩
  · exact Or.inl ⟨v, vm₁, B, X₁.warmed, X', hpost, fun target h => hstep₁ _ fun acts => by rw [doInvoke_state]; exact hsteps.trans h⟩
  · exact Or.inr ⟨q, vm₁, B, X₁.warmed, X', hpost, hstep₁ _ fun acts => by rw [doInvoke_state]; exact hsteps⟩
end Calls
theorem vx_cls {s : State} {T : State} {vm₁ : Vm} {E : String} {k : ClassId} (hW : s.WarmedH vm₁) (h : (T.setVm vm₁).vm.findClass E = some k) : s.vm.findClass E = some k := by
  have h1 : vm₁.findClass E = some k := h
  rw [hW.alike.findClass] at h1
  exact h1
/-- the method's frame g, with q thrown over it -/
def vx_W (p : Program) (l : Launch) (e : Env) (R : Room) (s : State) (m : MethodId) (args : Array Value) (below : List Frame) (meth : Method) (c : Code) (H : Heap) (locs : List Loc) (cells slots : Nat) (Q : State → Prop) (g : JFrame) (q : Addr) : Prop :=
  ∀ T : State, T.heap = H → Stand p l e R s m args below meth c T locs cells slots → ∃ t, Steps p.tables e below ((T.setTop g).pushFrame (.throwing q)) t ∧ Q t
def vx_Run (p : Program) (l : Launch) (e : Env) (R : Room) (s : State) (m : MethodId) (args : Array Value) (below : List Frame) (meth : Method) (c : Code) (H : Heap) (locs : List Loc) (cells slots mc ms : Nat) (g : JFrame) (rest : List Value) (Qa : State → Outcome → State → Prop) (XC : String → State → State → Prop) (free : Addr → Prop) : Prop :=
  ∀ T : State, T.heap = H → Stand p l e R s m args below meth c T locs cells slots →
    (∃ (v : Option Value) (st₀ t T' : State) (L : List Loc), st₀.heap = H ∧ Stand p l e R s m args below meth c T' (locs ++ L) (cells + mc) (slots + ms) ∧ (∀ q ∈ L, free q.base) ∧ T'.heap = t.heap ∧ T'.vm = t.vm ∧ Qa st₀ (.returned v) t ∧
      Goes p e below T g T' { g with pc := g.pc + 3, stack := v.toList ++ rest }) ∨
    (∃ (q : Addr) (st₀ t T' : State) (L : List Loc) (E : String) (ce : Cell), st₀.heap = H ∧ Stand p l e R s m args below meth c T' (locs ++ L) (cells + mc) (slots + ms) ∧ (∀ z ∈ L, free z.base) ∧ T'.heap = t.heap ∧ T'.vm = t.vm ∧ XC E st₀ t ∧ t.heap[q]? = some ce ∧ ce.vm = .none ∧ s.vm.findClass E = some ce.cls ∧
      Steps p.tables e below (T.setTop g) ((T'.setTop { g with stack := rest }).pushFrame (.throwing q)))
def vx_X {S : Type} (px : S → Prop) (B : String → S → State → Prop) (A : Nat → Prop) : String → State → State → Prop := fun E st t => ∃ u : S, px u ∧ B E u t ∧ va_F A st t
section Runs
variable {p : Program} {l : Launch} {e : Env} {R : Room} {s : State} {m : MethodId} {args : Array Value} {below : List Frame} {meth : Method} {c : Code} {H : Heap} {locs : List Loc} {cells slots : Nat}
variable {y : MethodName} {bytes cc : ByteArray} {maxL nL mc ms n index : Nat} {ret : Option FieldType} {ws : List Cond} {rm : Room} {Pc : Array Value → State → Prop} {Qc : Array Value → State → Outcome → State → Prop} {XC : String → State → State → Prop} {free : Addr → Prop} {Ts : List Cond} {own C : String} {b : Addr} {As rest : List Value} {g : JFrame}
theorem vx_callBack (cb : CallB R s args own index y bytes maxL ret ws rm mc ms n) (hM : vx_Met l y ws rm Pc Qc XC mc ms free) (hbl : FrameBlind Pc) : vx_Back l R p e below s args y 3 8 (PreOf R mc ms Pc) (PostOf Qc mc ms free) (vx_Post XC mc ms free) := by
  obtain ⟨hrc, hrs, hfr, hlo, hws, hcw, -, hini, -⟩ := cb
  exact vx_back (bytes := bytes) (maxL := maxL) (ret := ret) hM hbl hrc hrs hfr hlo hws hcw (fun a' U hW => word_at hW (Or.inl (by first | rfl | simp [Cond.onTables, Cond.keeps, Cond.steady])) hini)
theorem vx_runV (S : CallFix p m c cc nL s args Ts own) (hM : vx_Met l y ws rm Pc Qc XC mc ms free) (cw : CallW R s args own C index y bytes maxL ret ws rm mc ms n) (hp : PreV s H C b Pc As)
    (hg : g.method = m) (hn : As.length = n) (hsize : g.locals.size = nL) (hstack : g.stack = As.reverse ++ .ref b :: rest) (hW : 2 * g.monitorRoom + (rest.map fun v => v.category).sum ≤ 8) (hdg : decode cc g.pc = .ok (.invokevirtual index, 3)) (hf : cells + mc ≤ R.cells ∧ slots + ms ≤ R.slots) :
    vx_Run p l e R s m args below meth c H locs cells slots mc ms g rest (Qc (Value.ref b :: As).toArray) XC free := by
  have hK : vx_Back l R p e below s args y 3 8 (PreOf R mc ms Pc) (PostOf Qc mc ms free) (vx_Post XC mc ms free) := vx_callBack cw.1 hM hp.1
  obtain ⟨⟨-, -, -, -, -, -, hcode, -, hy, hlen, hl⟩, hin, hse⟩ := cw
  obtain ⟨hx, hb, hml, ho, -⟩ := S
  obtain ⟨-, ⟨cellB, hcB, hoB, hclB⟩, hPc⟩ := hp
  intro T hT X
  rcases vx_callV X hx (C := C) (bytes := bytes) (maxL := maxL) (ret := ret) ho hl hin hse hcode hy hK (by rw [hT]; exact hcB) hoB hclB hg (hsize.trans hml.symm) (argsL := As) (rest := rest) (fun sig h => hn.trans (hlen sig h)) hstack hW (by rw [hb]; exact hdg)
    (fun vm₁ hW₁ => ⟨hf.1, hf.2, hPc (T.setVm vm₁) hT hW₁⟩) with ⟨v, vm₁, ⟨U', l2, c2, s2⟩, hW₁, X', ⟨g', mk, t, L, e1, e2, hq, h1, hL, h2, h3⟩, st⟩ | ⟨q, vm₁, ⟨U', l2, c2, s2⟩, hW₁, X', ⟨g', mk, t, L, E, ce, e1, e2, hq, hce, hcv, hcl, h1, hL, h2, h3⟩, st⟩
  · dsimp only [Pt.U, Pt.locs, Pt.cells, Pt.slots] at X' e1 e2 h1 h2 h3 st
    subst h1; subst h2; subst h3
    exact Or.inl ⟨v, (T.setVm vm₁).calling g' mk (Value.ref b :: As).toArray, t, U', L, hT, X', hL, e1, e2, hq, st⟩
  · dsimp only [Pt.U, Pt.locs, Pt.cells, Pt.slots] at X' e1 e2 h1 h2 h3 st hcl
    subst h1; subst h2; subst h3
    exact Or.inr ⟨q, (T.setVm vm₁).calling g' mk (Value.ref b :: As).toArray, t, U', L, E, ce, hT, X', hL, e1, e2, hq, hce, hcv, vx_cls hW₁ hcl, st⟩
theorem vx_runS (S : CallFix p m c cc nL s args Ts own) (hM : vx_Met l y ws rm Pc Qc XC mc ms free) (cw : CallB R s args own index y bytes maxL ret ws rm mc ms n ∧ (Cond.static y).before args s = true) (hp : PreS s H Pc As)
    (hg : g.method = m) (hn : As.length = n) (hsize : g.locals.size = nL) (hstack : g.stack = As.reverse ++ rest) (hW : 2 * g.monitorRoom + (rest.map fun v => v.category).sum ≤ 8) (hdg : decode cc g.pc = .ok (.invokestatic index, 3)) (hf : cells + mc ≤ R.cells ∧ slots + ms ≤ R.slots) :
    vx_Run p l e R s m args below meth c H locs cells slots mc ms g rest (Qc As.toArray) XC free := by
  have hK : vx_Back l R p e below s args y 3 8 (PreOf R mc ms Pc) (PostOf Qc mc ms free) (vx_Post XC mc ms free) := vx_callBack cw.1 hM hp.1
  obtain ⟨⟨-, -, -, -, -, -, hcode, hini, hy, hlen, hl⟩, hstt⟩ := cw
  obtain ⟨hx, hb, hml, ho, -⟩ := S
  intro T hT X
  rcases vx_callS X hx (bytes := bytes) (maxL := maxL) (ret := ret) ho hl hstt hini hcode hy hK hg (hsize.trans hml.symm) (argsL := As) (rest := rest) (fun sig h => hn.trans (hlen sig h)) hstack hW (by rw [hb]; exact hdg)
    (fun vm₁ hW₁ => ⟨hf.1, hf.2, hp.2 (T.setVm vm₁) hT hW₁⟩) with ⟨v, vm₁, ⟨U', l2, c2, s2⟩, hW₁, X', ⟨g', mk, t, L, e1, e2, hq, h1, hL, h2, h3⟩, st⟩ | ⟨q, vm₁, ⟨U', l2, c2, s2⟩, hW₁, X', ⟨g', mk, t, L, E, ce, e1, e2, hq, hce, hcv, hcl, h1, hL, h2, h3⟩, st⟩
  · dsimp only [Pt.U, Pt.locs, Pt.cells, Pt.slots] at X' e1 e2 h1 h2 h3 st
    subst h1; subst h2; subst h3
    exact Or.inl ⟨v, (T.setVm vm₁).calling g' mk As.toArray, t, U', L, hT, X', hL, e1, e2, hq, st⟩
  · dsimp only [Pt.U, Pt.locs, Pt.cells, Pt.slots] at X' e1 e2 h1 h2 h3 st hcl
    subst h1; subst h2; subst h3
    exact Or.inr ⟨q, (T.setVm vm₁).calling g' mk As.toArray, t, U', L, E, ce, hT, X', hL, e1, e2, hq, hce, hcv, vx_cls hW₁ hcl, st⟩
end Runs
section Rows
variable {p : Program} {l : Launch} {e : Env} {R : Room} {s : State} {m : MethodId} {args : Array Value} {below : List Frame} {meth : Method} {c : Code} {H : Heap} {locs : List Loc} {cells slots : Nat} {Q : State → Prop}
variable {mc ms : Nat} {free : Addr → Prop} {A0 A1 : Nat → Prop} {H0 : Heap} {a : Array Value} {pc : Nat} {ls : Array Slot} {st0 rest : List Value}
theorem vx_keep {st₀ t T' : State} {L : List Loc} (h0 : st₀.heap = H) (e1 : T'.heap = t.heap) (hS : va_S A0 H0 H locs) (hA : ∀ q, q < H.size → A1 q → A0 q) (hf : ∀ q, free q → A0 q) (hL : ∀ q ∈ L, free q.base) (hF : va_F A1 st₀ t) :
    H.size ≤ T'.heap.size ∧ (∀ q : Nat, q < H.size → ¬ A1 q → T'.heap[q]? = H[q]?) ∧ va_S A0 H0 T'.heap (locs ++ L) := by
  obtain ⟨hz, hk⟩ := hF
  rw [h0] at hz hk
  exact ⟨by rw [e1]; exact hz, fun q h1 h2 => by rw [e1]; exact hk q h1 h2,
    ⟨Nat.le_trans hS.1 (by rw [e1]; exact hz), fun q h1 h2 => by rw [e1, hk q (Nat.lt_of_lt_of_le h1 hS.1) (fun z => h2 (hA q (Nat.lt_of_lt_of_le h1 hS.1) z))]; exact hS.2.1 q h1 h2, fun q hq => by
      rcases List.mem_append.mp hq with h | h
      · exact hS.2.2 q h
      · exact hf _ (hL q h)⟩⟩
theorem vx_calli {S SX : Type} {post : Int32 → S → Prop} {px : SX → Prop} {B : S → State → Prop} {BX : String → SX → State → Prop} {AX : Nat → Prop} (hr : vx_Run p l e R s m args below meth c H locs cells slots mc ms (F0 m pc ls st0) rest (va_Qi post B A1 a) (vx_X px BX AX) free) (hS : va_S A0 H0 H locs) (hA : ∀ q, q < H.size → A1 q → A0 q) (hf : ∀ q, free q → A0 q) (hAX : ∀ q, q < H.size → AX q → A0 q)
    (kx : ∀ (E : String) (ce : Cell) (q9 : Addr) (u : SX) (t : State) (H1 : Heap) (locs1 : List Loc), t.heap = H1 → s.vm.Alike t.vm → px u → BX E u t → H.size ≤ H1.size → (∀ q : Nat, q < H.size → ¬ AX q → H1[q]? = H[q]?) → va_S A0 H0 H1 locs1 → H1[q9]? = some ce → ce.vm = .none → s.vm.findClass E = some ce.cls → vx_W p l e R s m args below meth c H1 locs1 (cells + mc) (slots + ms) Q (F0 m pc ls rest) q9)
    (kk : ∀ (r : Int32) (u : S) (t : State) (H1 : Heap) (locs1 : List Loc), t.heap = H1 → s.vm.Alike t.vm → post r u → B u t → H.size ≤ H1.size → (∀ q : Nat, q < H.size → ¬ A1 q → H1[q]? = H[q]?) → va_S A0 H0 H1 locs1 → W p l e R s m args below meth c H1 locs1 (cells + mc) (slots + ms) Q (F0 m (pc + 3) ls (.int r :: rest))) : W p l e R s m args below meth c H locs cells slots Q (F0 m pc ls st0) := by
  intro T hT X
  rcases hr T hT X with ⟨v, st₀, t, T', L, h0, X', hL, e1, e2, ⟨⟨r, u, hv, hp, hb⟩, hF⟩, st⟩ | ⟨q, st₀, t, T', L, E, ce, h0, X', hL, e1, e2, ⟨u, hp, hb, hF⟩, hce, hcv, hcl, st⟩
  · cases hv
    obtain ⟨k1, k2, k3⟩ := vx_keep h0 e1 hS hA hf hL hF
    obtain ⟨t2, a1, b1⟩ := kk r u t T'.heap (locs ++ L) e1.symm (by rw [← e2]; exact X'.warmed.alike) hp hb k1 k2 k3 T' rfl X'
    exact ⟨t2, st t2 a1, b1⟩
  · obtain ⟨k1, k2, k3⟩ := vx_keep h0 e1 hS hAX hf hL hF
    obtain ⟨t2, a1, b1⟩ := kx E ce q u t T'.heap (locs ++ L) e1.symm (by rw [← e2]; exact X'.warmed.alike) hp hb k1 k2 k3 (by rw [e1]; exact hce) hcv hcl T' rfl X'
    exact ⟨t2, st.trans a1, b1⟩
theorem vx_calll {S SX : Type} {post : Int64 → S → Prop} {px : SX → Prop} {B : S → State → Prop} {BX : String → SX → State → Prop} {AX : Nat → Prop} (hr : vx_Run p l e R s m args below meth c H locs cells slots mc ms (F0 m pc ls st0) rest (va_Ql post B A1 a) (vx_X px BX AX) free) (hS : va_S A0 H0 H locs) (hA : ∀ q, q < H.size → A1 q → A0 q) (hf : ∀ q, free q → A0 q) (hAX : ∀ q, q < H.size → AX q → A0 q)
    (kx : ∀ (E : String) (ce : Cell) (q9 : Addr) (u : SX) (t : State) (H1 : Heap) (locs1 : List Loc), t.heap = H1 → s.vm.Alike t.vm → px u → BX E u t → H.size ≤ H1.size → (∀ q : Nat, q < H.size → ¬ AX q → H1[q]? = H[q]?) → va_S A0 H0 H1 locs1 → H1[q9]? = some ce → ce.vm = .none → s.vm.findClass E = some ce.cls → vx_W p l e R s m args below meth c H1 locs1 (cells + mc) (slots + ms) Q (F0 m pc ls rest) q9)
    (kk : ∀ (r : Int64) (u : S) (t : State) (H1 : Heap) (locs1 : List Loc), t.heap = H1 → s.vm.Alike t.vm → post r u → B u t → H.size ≤ H1.size → (∀ q : Nat, q < H.size → ¬ A1 q → H1[q]? = H[q]?) → va_S A0 H0 H1 locs1 → W p l e R s m args below meth c H1 locs1 (cells + mc) (slots + ms) Q (F0 m (pc + 3) ls (.long r :: rest))) : W p l e R s m args below meth c H locs cells slots Q (F0 m pc ls st0) := by
  intro T hT X
  rcases hr T hT X with ⟨v, st₀, t, T', L, h0, X', hL, e1, e2, ⟨⟨r, u, hv, hp, hb⟩, hF⟩, st⟩ | ⟨q, st₀, t, T', L, E, ce, h0, X', hL, e1, e2, ⟨u, hp, hb, hF⟩, hce, hcv, hcl, st⟩
  · cases hv
    obtain ⟨k1, k2, k3⟩ := vx_keep h0 e1 hS hA hf hL hF
    obtain ⟨t2, a1, b1⟩ := kk r u t T'.heap (locs ++ L) e1.symm (by rw [← e2]; exact X'.warmed.alike) hp hb k1 k2 k3 T' rfl X'
    exact ⟨t2, st t2 a1, b1⟩
  · obtain ⟨k1, k2, k3⟩ := vx_keep h0 e1 hS hAX hf hL hF
    obtain ⟨t2, a1, b1⟩ := kx E ce q u t T'.heap (locs ++ L) e1.symm (by rw [← e2]; exact X'.warmed.alike) hp hb k1 k2 k3 (by rw [e1]; exact hce) hcv hcl T' rfl X'
    exact ⟨t2, st.trans a1, b1⟩
theorem vx_callf {S SX : Type} {post : UInt32 → S → Prop} {px : SX → Prop} {B : S → State → Prop} {BX : String → SX → State → Prop} {AX : Nat → Prop} (hr : vx_Run p l e R s m args below meth c H locs cells slots mc ms (F0 m pc ls st0) rest (va_Qf post B A1 a) (vx_X px BX AX) free) (hS : va_S A0 H0 H locs) (hA : ∀ q, q < H.size → A1 q → A0 q) (hf : ∀ q, free q → A0 q) (hAX : ∀ q, q < H.size → AX q → A0 q)
    (kx : ∀ (E : String) (ce : Cell) (q9 : Addr) (u : SX) (t : State) (H1 : Heap) (locs1 : List Loc), t.heap = H1 → s.vm.Alike t.vm → px u → BX E u t → H.size ≤ H1.size → (∀ q : Nat, q < H.size → ¬ AX q → H1[q]? = H[q]?) → va_S A0 H0 H1 locs1 → H1[q9]? = some ce → ce.vm = .none → s.vm.findClass E = some ce.cls → vx_W p l e R s m args below meth c H1 locs1 (cells + mc) (slots + ms) Q (F0 m pc ls rest) q9)
    (kk : ∀ (r : UInt32) (u : S) (t : State) (H1 : Heap) (locs1 : List Loc), t.heap = H1 → s.vm.Alike t.vm → post r u → B u t → H.size ≤ H1.size → (∀ q : Nat, q < H.size → ¬ A1 q → H1[q]? = H[q]?) → va_S A0 H0 H1 locs1 → W p l e R s m args below meth c H1 locs1 (cells + mc) (slots + ms) Q (F0 m (pc + 3) ls (.float r :: rest))) : W p l e R s m args below meth c H locs cells slots Q (F0 m pc ls st0) := by
  intro T hT X
  rcases hr T hT X with ⟨v, st₀, t, T', L, h0, X', hL, e1, e2, ⟨⟨r, u, hv, hp, hb⟩, hF⟩, st⟩ | ⟨q, st₀, t, T', L, E, ce, h0, X', hL, e1, e2, ⟨u, hp, hb, hF⟩, hce, hcv, hcl, st⟩
  · cases hv
    obtain ⟨k1, k2, k3⟩ := vx_keep h0 e1 hS hA hf hL hF
    obtain ⟨t2, a1, b1⟩ := kk r u t T'.heap (locs ++ L) e1.symm (by rw [← e2]; exact X'.warmed.alike) hp hb k1 k2 k3 T' rfl X'
    exact ⟨t2, st t2 a1, b1⟩
  · obtain ⟨k1, k2, k3⟩ := vx_keep h0 e1 hS hAX hf hL hF
    obtain ⟨t2, a1, b1⟩ := kx E ce q u t T'.heap (locs ++ L) e1.symm (by rw [← e2]; exact X'.warmed.alike) hp hb k1 k2 k3 (by rw [e1]; exact hce) hcv hcl T' rfl X'
    exact ⟨t2, st.trans a1, b1⟩
theorem vx_calld {S SX : Type} {post : UInt64 → S → Prop} {px : SX → Prop} {B : S → State → Prop} {BX : String → SX → State → Prop} {AX : Nat → Prop} (hr : vx_Run p l e R s m args below meth c H locs cells slots mc ms (F0 m pc ls st0) rest (va_Qd post B A1 a) (vx_X px BX AX) free) (hS : va_S A0 H0 H locs) (hA : ∀ q, q < H.size → A1 q → A0 q) (hf : ∀ q, free q → A0 q) (hAX : ∀ q, q < H.size → AX q → A0 q)
    (kx : ∀ (E : String) (ce : Cell) (q9 : Addr) (u : SX) (t : State) (H1 : Heap) (locs1 : List Loc), t.heap = H1 → s.vm.Alike t.vm → px u → BX E u t → H.size ≤ H1.size → (∀ q : Nat, q < H.size → ¬ AX q → H1[q]? = H[q]?) → va_S A0 H0 H1 locs1 → H1[q9]? = some ce → ce.vm = .none → s.vm.findClass E = some ce.cls → vx_W p l e R s m args below meth c H1 locs1 (cells + mc) (slots + ms) Q (F0 m pc ls rest) q9)
    (kk : ∀ (r : UInt64) (u : S) (t : State) (H1 : Heap) (locs1 : List Loc), t.heap = H1 → s.vm.Alike t.vm → post r u → B u t → H.size ≤ H1.size → (∀ q : Nat, q < H.size → ¬ A1 q → H1[q]? = H[q]?) → va_S A0 H0 H1 locs1 → W p l e R s m args below meth c H1 locs1 (cells + mc) (slots + ms) Q (F0 m (pc + 3) ls (.double r :: rest))) : W p l e R s m args below meth c H locs cells slots Q (F0 m pc ls st0) := by
  intro T hT X
  rcases hr T hT X with ⟨v, st₀, t, T', L, h0, X', hL, e1, e2, ⟨⟨r, u, hv, hp, hb⟩, hF⟩, st⟩ | ⟨q, st₀, t, T', L, E, ce, h0, X', hL, e1, e2, ⟨u, hp, hb, hF⟩, hce, hcv, hcl, st⟩
  · cases hv
    obtain ⟨k1, k2, k3⟩ := vx_keep h0 e1 hS hA hf hL hF
    obtain ⟨t2, a1, b1⟩ := kk r u t T'.heap (locs ++ L) e1.symm (by rw [← e2]; exact X'.warmed.alike) hp hb k1 k2 k3 T' rfl X'
    exact ⟨t2, st t2 a1, b1⟩
  · obtain ⟨k1, k2, k3⟩ := vx_keep h0 e1 hS hAX hf hL hF
    obtain ⟨t2, a1, b1⟩ := kx E ce q u t T'.heap (locs ++ L) e1.symm (by rw [← e2]; exact X'.warmed.alike) hp hb k1 k2 k3 (by rw [e1]; exact hce) hcv hcl T' rfl X'
    exact ⟨t2, st.trans a1, b1⟩
theorem vx_callv {S SX : Type} {post : S → Prop} {px : SX → Prop} {B : S → State → Prop} {BX : String → SX → State → Prop} {AX : Nat → Prop} (hr : vx_Run p l e R s m args below meth c H locs cells slots mc ms (F0 m pc ls st0) rest (va_Qv post B A1 a) (vx_X px BX AX) free) (hS : va_S A0 H0 H locs) (hA : ∀ q, q < H.size → A1 q → A0 q) (hf : ∀ q, free q → A0 q) (hAX : ∀ q, q < H.size → AX q → A0 q)
    (kx : ∀ (E : String) (ce : Cell) (q9 : Addr) (u : SX) (t : State) (H1 : Heap) (locs1 : List Loc), t.heap = H1 → s.vm.Alike t.vm → px u → BX E u t → H.size ≤ H1.size → (∀ q : Nat, q < H.size → ¬ AX q → H1[q]? = H[q]?) → va_S A0 H0 H1 locs1 → H1[q9]? = some ce → ce.vm = .none → s.vm.findClass E = some ce.cls → vx_W p l e R s m args below meth c H1 locs1 (cells + mc) (slots + ms) Q (F0 m pc ls rest) q9)
    (kk : ∀ (u : S) (t : State) (H1 : Heap) (locs1 : List Loc), t.heap = H1 → s.vm.Alike t.vm → post u → B u t → H.size ≤ H1.size → (∀ q : Nat, q < H.size → ¬ A1 q → H1[q]? = H[q]?) → va_S A0 H0 H1 locs1 → W p l e R s m args below meth c H1 locs1 (cells + mc) (slots + ms) Q (F0 m (pc + 3) ls (rest))) : W p l e R s m args below meth c H locs cells slots Q (F0 m pc ls st0) := by
  intro T hT X
  rcases hr T hT X with ⟨v, st₀, t, T', L, h0, X', hL, e1, e2, ⟨⟨u, hv, hp, hb⟩, hF⟩, st⟩ | ⟨q, st₀, t, T', L, E, ce, h0, X', hL, e1, e2, ⟨u, hp, hb, hF⟩, hce, hcv, hcl, st⟩
  · cases hv
    obtain ⟨k1, k2, k3⟩ := vx_keep h0 e1 hS hA hf hL hF
    obtain ⟨t2, a1, b1⟩ := kk u t T'.heap (locs ++ L) e1.symm (by rw [← e2]; exact X'.warmed.alike) hp hb k1 k2 k3 T' rfl X'
    exact ⟨t2, st t2 a1, b1⟩
  · obtain ⟨k1, k2, k3⟩ := vx_keep h0 e1 hS hAX hf hL hF
    obtain ⟨t2, a1, b1⟩ := kx E ce q u t T'.heap (locs ++ L) e1.symm (by rw [← e2]; exact X'.warmed.alike) hp hb k1 k2 k3 (by rw [e1]; exact hce) hcv hcl T' rfl X'
    exact ⟨t2, st.trans a1, b1⟩
/-- caught by the row x of this method's table; the rows ahead don't take it -/
theorem vx_catch {own name : String} {E : String} {ce : Cell} {q : Addr} (hown : s.vm.findClass own = some m.cls) (pre : List ExceptionTableEntry) (x : ExceptionTableEntry) (suf : List ExceptionTableEntry) (hsplit : c.exceptionTable.toList = pre ++ x :: suf)
    (hpass : ∀ z ∈ pre, covers z pc = false ∨ (z.catchType ≠ 0 ∧ ∃ nm : String, (Cond.classLink own z.catchType nm).before args s = true ∧ va_Nc E nm s)) (hx : covers x pc = true) (h0 : x.catchType ≠ 0)
    (hlink : (Cond.classLink own x.catchType name).before args s = true) (hcast : (Cond.castable E name).before args s = true) (hcell : H[q]? = some ce) (hv : ce.vm = .none) (hcl : s.vm.findClass E = some ce.cls)
    (kk : W p l e R s m args below meth c H locs cells slots Q (F0 m x.handlerPc ls [.ref q])) : vx_W p l e R s m args below meth c H locs cells slots Q (F0 m pc ls rest) q := by
  intro T hT X
  have hpl : e.platform.magicAccessors = ({} : Platform).magicAccessors := by rw [X.admits.platform]
  obtain ⟨c3, c4, hc3, hc4, hasg⟩ := Cond.castable_spec hcast
  cases Option.some.inj (hc3.symm.trans hcl)
  obtain ⟨c5, hc5, hcl5⟩ := Cond.classLink_spec hown hlink e.platform hpl
  cases Option.some.inj (hc4.symm.trans hc5)
  obtain ⟨vm', X', st⟩ := X.thenCaughtThrough q (g := F0 m pc ls rest) rfl (Steps.refl _) (by rw [hT]; exact hcell) (by rw [hv]; rfl) (by obtain ⟨k9, h9, -⟩ := Vm.findClass_spec hcl; exact ⟨k9, h9⟩) pre x suf hsplit
    (fun z hz => by
      rcases hpass z hz with h | ⟨hz0, nm, hl1, hn1⟩
      · exact Or.inl h
      · obtain ⟨c6, hc6, hcl6⟩ := Cond.classLink_spec hown hl1 e.platform hpl
        obtain ⟨a8, b8, h1, h2, h3⟩ := hn1
        cases Option.some.inj (h1.symm.trans hcl)
        cases Option.some.inj (h2.symm.trans hc6)
        exact Or.inr ⟨hz0, _, hcl6, h3⟩) hx (Or.inr ⟨h0, c4, hcl5, hasg⟩)
  obtain ⟨t, a1, b1⟩ := kk (T.setVm vm') hT X'
  exact ⟨t, st.trans a1, b1⟩
end Rows
section Ends
variable {p : Program} {l : Launch} {e : Env} {R : Room} {s : State} {m : MethodId} {args : Array Value} {below : List Frame} {meth : Method} {c : Code} {H : Heap} {locs : List Loc} {cells slots : Nat} {Q : State → Prop}
variable {mc ms : Nat} {free : Addr → Prop} {A0 A1 : Nat → Prop} {H0 : Heap} {a : Array Value} {ls : Array Slot} {st0 rest : List Value}
variable {Qc : Array Value → State → Outcome → State → Prop} {XC : String → State → State → Prop}
/-- what a body that may throw owes at its end -/
def vx_MQ (below : List Frame) (Qc : Array Value → State → Outcome → State → Prop) (XC : String → State → State → Prop) (a : Array Value) (s : State) (mc ms : Nat) (free : Addr → Prop) : State → Prop := fun t =>
  ∃ o, t.status = .running ∧ Ended t below o ∧ vx_Q Qc XC mc ms free a s o t
theorem vx_ret {g : JFrame} {mc ms : Nat} (k : W p l e R s m args below meth c H locs cells slots (MQ below Qc args s mc ms free) g) : W p l e R s m args below meth c H locs cells slots (vx_MQ below Qc XC args s mc ms free) g := by
  intro T hT X
  obtain ⟨t, a1, o, b1, b2, b3, b4⟩ := k T hT X
  exact ⟨t, a1, o, b1, b2, Or.inl ⟨b3, b4⟩⟩
/-- not caught here: it goes on to the caller -/
theorem vx_widen {g : JFrame} {q : Addr} {k n : Nat} (h1 : cells ≤ k) (h2 : slots ≤ n) (kk : vx_W p l e R s m args below meth c H locs k n Q g q) : vx_W p l e R s m args below meth c H locs cells slots Q g q := fun T hT X => kk T hT (stand_widen X h1 h2)
theorem vx_out {pc : Nat} {E : String} {ce : Cell} {q : Addr} {mc ms : Nat} (hout : ∀ x ∈ c.exceptionTable.toList, covers x pc = false) (hlocks : meth.locks = false) (hcell : H[q]? = some ce) (hv : ce.vm = .none) (hcl : s.vm.findClass E = some ce.cls)
    (hx : ∀ t : State, t.heap = H → s.vm.Alike t.vm → XC E s t) (hf : ∀ z ∈ locs, free z.base) (hc : cells ≤ mc) (hs : slots ≤ ms) :
    vx_W p l e R s m args below meth c H locs cells slots (vx_MQ below Qc XC args s mc ms free) (F0 m pc ls rest) q := by
  intro T hT X
  obtain ⟨st1, hrun, hend, hW, hsm⟩ := X.leaveThrown q (g := F0 m pc ls rest) rfl rfl rfl hout hlocks
  have hcell9 : (T.setFrames (.throwing q :: below)).heap[q]? = some ce := by
    show T.heap[q]? = some ce
    rw [hT]; exact hcell
  exact ⟨_, st1, .threw q, hrun, hend, Or.inr ⟨q, rfl, E, ce, locs, hx _ hT hW.alike, hcell9, hv, hcl, hW, hsm.mono hc hs, hf⟩⟩
theorem vx_frame {U : State} {k n : Nat} (h : s.sameButNew ({ U with vm := s.vm } : State) locs k n) : s.heap.size ≤ U.heap.size ∧ ∀ q : Nat, q < s.heap.size → (∀ z ∈ locs, z.base ≠ q) → U.heap[q]? = s.heap[q]? := by
  obtain ⟨-, h2, -, -, -, h6⟩ := h
  refine ⟨h2, fun q hq hz => ?_⟩
  obtain ⟨c9, e1, e2, e3, e4⟩ := h6 q _ (Array.getElem?_eq_getElem hq)
  have hs : c9.slots = (s.heap[q]).slots := Array.ext_getElem? fun i => e4 i fun hm => hz _ hm rfl
  have h9 : c9 = s.heap[q] := by
    rw [hs] at e2
    exact e2
  have e5 : U.heap[q]? = some c9 := e1
  rw [e5, h9, Array.getElem?_eq_getElem hq]
/-- the words of a throw but the four that speak of the heap -/
def vx_no (w : Cond) : Bool := decide (w ≠ .isRef (.static Bundle.tN "UNASSIGNED_STACK" Bundle.steD)) && decide (w ≠ .isRef (.static Bundle.tN "SUPPRESSED_SENTINEL" Bundle.listD)) && decide (w ≠ .laysStatic Bundle.tN "UNASSIGNED_STACK" Bundle.steD) && decide (w ≠ .laysStatic Bundle.tN "SUPPRESSED_SENTINEL" Bundle.listD)
def vx_at0 (own : String) (ic : Nat) (X : String) (names : List String) : List Cond := (Bundle.ownAtoms0 own ic X names).filter vx_no
def vx_atS (own : String) (ic : Nat) (X : String) (names : List String) : List Cond := (Bundle.ownAtoms own ic X names).filter vx_no
/-- a word that the tables alone decide, or a good one -/
def vx_ot (w : Cond) : Bool := w.onTables || goodWord w
theorem vx_ot_at {args a' : Array Value} {s U : State} {w : Cond} (hW : s.WarmedH U.vm) (hvm : s.vm = U.vm) (hg : vx_ot w = true) (h : w.before args s = true) : w.before a' U = true := by
  simp only [vx_ot, Bool.or_eq_true] at hg
  rcases hg with hg | hg
  · exact va_tabs hg hvm h
  · exact word_at hW (good_of_word hg) h
/-- a list's words: the good ones out of the method's own list, the others by premises of their own -/
theorem vx_hat {args : Array Value} {s : State} {L B : List Cond} (h1 : ∀ w ∈ L.filter goodWord, w.before args s = true) (h2 : ∀ w ∈ L.filter (fun w => !goodWord w), w ∈ B) (h3 : ∀ w ∈ B, w.before args s = true) : ∀ w ∈ L, w.before args s = true := by
  intro w hw
  by_cases g : goodWord w = true
  · exact h1 w (List.mem_filter.mpr ⟨hw, g⟩)
  · refine h3 w (h2 w (List.mem_filter.mpr ⟨hw, ?_⟩))
    show (!goodWord w) = true
    cases hgw : goodWord w
    · rfl
    · exact absurd hgw g
theorem vx_c {args : Array Value} {s : State} {w : Cond} {B : List Cond} (h : w.before args s = true) (t : ∀ w ∈ B, w.before args s = true) : ∀ w' ∈ w :: B, w'.before args s = true := fun w' h' => (List.mem_cons.mp h').elim (fun e => by rw [e]; exact h) (t w')
theorem vx_n {args : Array Value} {s : State} : ∀ w ∈ ([] : List Cond), w.before args s = true := fun _ h => nomatch h
theorem vx_own {args : Array Value} {s : State} {L : List Cond} (h1 : ∀ w ∈ L.filter vx_no, w.before args s = true)
    (hU : (Cond.isRef (.static Bundle.tN "UNASSIGNED_STACK" Bundle.steD)).before args s = true) (hN : (Cond.isRef (.static Bundle.tN "SUPPRESSED_SENTINEL" Bundle.listD)).before args s = true)
    (lU : (Cond.laysStatic Bundle.tN "UNASSIGNED_STACK" Bundle.steD).before args s = true) (lN : (Cond.laysStatic Bundle.tN "SUPPRESSED_SENTINEL" Bundle.listD).before args s = true) : ∀ w ∈ L, w.before args s = true := by
  intro w hw
  by_cases e1 : w = .isRef (.static Bundle.tN "UNASSIGNED_STACK" Bundle.steD)
  · rw [e1]; exact hU
  · by_cases e2 : w = .isRef (.static Bundle.tN "SUPPRESSED_SENTINEL" Bundle.listD)
    · rw [e2]; exact hN
    · by_cases e3 : w = .laysStatic Bundle.tN "UNASSIGNED_STACK" Bundle.steD
      · rw [e3]; exact lU
      · by_cases e4 : w = .laysStatic Bundle.tN "SUPPRESSED_SENTINEL" Bundle.listD
        · rw [e4]; exact lN
        · exact h1 w (List.mem_filter.mpr ⟨hw, by unfold vx_no; rw [decide_eq_true e1, decide_eq_true e2, decide_eq_true e3, decide_eq_true e4]; rfl⟩)
/-- where a static field lies, its class's statics cell in H -/
def vx_L (C n d : String) (A : Nat → Prop) (U : State) (H : Heap) : Prop := ∃ (c : ClassId) (k : Class) (i : Nat) (f : Field) (a : Nat) (cell : Cell), U.vm.findClass C = some c ∧ U.fieldFound? C n d = some (c, k, i, f) ∧ f.isStatic = true ∧ k.statics = some a ∧ H[a]? = some cell ∧ cell.vm.isStatics = true ∧ cell.cls = c ∧ f.slot < cell.slots.size ∧ k.staticTypes[f.slot]? = some f.type ∧ ¬ A a
theorem vx_L.moved {C n d : String} {A : Nat → Prop} {u U : State} {H : Heap} (hvm : u.vm.Alike U.vm) (h : vx_L C n d A u H) : vx_L C n d A U H := by
  obtain ⟨c, k, i, f, a, cell, h1, h2, h3, h4, h5, h6, h7, h8, h9, h10⟩ := h
  obtain ⟨k', hi', he⟩ := State.fieldFound?_setVm hvm h2
  exact ⟨c, k', i, f, a, cell, by rw [hvm.findClass]; exact h1, hi', h3, by rw [he]; exact h4, h5, h6, h7, h8, by rw [he]; exact h9, h10⟩
theorem vx_L.kept {C n d : String} {A : Nat → Prop} {U : State} {H H1 : Heap} (h : vx_L C n d A U H) (hq : ∀ a : Nat, a < H.size → ¬ A a → H1[a]? = H[a]?) : vx_L C n d A U H1 := by
  obtain ⟨c, k, i, f, a, cell, h1, h2, h3, h4, h5, h6, h7, h8, h9, h10⟩ := h
  exact ⟨c, k, i, f, a, cell, h1, h2, h3, h4, by rw [hq a (Array.getElem?_eq_some_iff.mp h5).1 h10]; exact h5, h6, h7, h8, h9, h10⟩
theorem vx_L.narrow {C n d : String} {A B : Nat → Prop} {U : State} {H : Heap} (h : vx_L C n d A U H) (hAB : ∀ q, B q → A q) : vx_L C n d B U H := by
  obtain ⟨c, k, i, f, a, cell, h1, h2, h3, h4, h5, h6, h7, h8, h9, h10⟩ := h
  exact ⟨c, k, i, f, a, cell, h1, h2, h3, h4, h5, h6, h7, h8, h9, fun z => h10 (hAB _ z)⟩
theorem vx_L.word {C n d : String} {A : Nat → Prop} {s : State} {args : Array Value} (h : vx_L C n d A s s.heap) : (Cond.laysStatic C n d).before args s = true := by
  obtain ⟨c, k, i, f, a, cell, h1, h2, h3, h4, h5, h6, h7, h8, h9, -⟩ := h
  show (Cond.laysStatic C n d).holds args s none s [] = true
  exact Cond.laysStatic_of h1 h2 h3 h4 h5 h6 h7 h8 h9
/-- .. and what it holds: null or some reference -/
def vx_Zq (C n d : String) (A : Nat → Prop) (U : State) (H : Heap) : Prop := va_Zq C n d A U H ∧ vx_L C n d A U H
theorem vx_Zq.moved {C n d : String} {A : Nat → Prop} {u U : State} {H : Heap} (hvm : u.vm.Alike U.vm) (h : vx_Zq C n d A u H) : vx_Zq C n d A U H := ⟨va_Zq.moved hvm h.1, vx_L.moved hvm h.2⟩
theorem vx_Zq.kept {C n d : String} {A : Nat → Prop} {U : State} {H H1 : Heap} (h : vx_Zq C n d A U H) (hq : ∀ a : Nat, a < H.size → ¬ A a → H1[a]? = H[a]?) : vx_Zq C n d A U H1 := ⟨va_Zq.kept h.1 hq, vx_L.kept h.2 hq⟩
theorem vx_Zq.narrow {C n d : String} {A B : Nat → Prop} {U : State} {H : Heap} (h : vx_Zq C n d A U H) (hAB : ∀ q, B q → A q) : vx_Zq C n d B U H := ⟨va_Zq.narrow h.1 hAB, vx_L.narrow h.2 hAB⟩
theorem vx_Zqof {args : Array Value} {s : State} {C n d : String} {A : Nat → Prop} (hl : (Cond.laysStatic C n d).before args s = true) (hini : (Cond.initialized C).before args s = true) (h : (Cond.isRef (.static C n d)).before args s = true) (hA : ∀ a : Nat, a < s.heap.size → ¬ A a) : vx_Zq C n d A s s.heap := by
  refine ⟨va_Zqof hl hini h hA, ?_⟩
  obtain ⟨c, k, i, f, a, cell, h1, h2, h3, h4, h5, h6, h7, h8, h9⟩ := Cond.laysStatic_spec hl
  exact ⟨c, k, i, f, a, cell, h1, h2, h3, h4, h5, h6, h7, h8, h9, hA a (Array.getElem?_eq_some_iff.mp h5).1⟩
theorem vx_isRef {C n d : String} {v : Value} {A : Nat → Prop} {s : State} {args : Array Value} (h : va_Z C n d v A s s.heap) (hv : v.isRef = true) : (Cond.isRef (.static C n d)).before args s = true := by
  obtain ⟨cf, kf, fi, f, a, cell, h1, h2, h3, h4, h5, h6, h7, -⟩ := h
  have he : (Term.static C n d).eval args s none [] s = some v := by
    simp [Term.eval, State.fieldNamed?, h1, h2, h4, h5, h6, h7]
  simp only [Cond.before, Cond.holds, Cond.value, he]
  cases v <;> simp_all [Value.isRef]
theorem vx_isRefq {C n d : String} {A : Nat → Prop} {s : State} {args : Array Value} (h : va_Zq C n d A s s.heap) : (Cond.isRef (.static C n d)).before args s = true := by
  rcases h with h | ⟨t, h⟩
  · exact vx_isRef h rfl
  · exact vx_isRef h rfl
/-- the same frame, seen from here: as if the method were called anew in this heap -/
theorem vx_rebase {T : State} (X : Stand p l e R s m args below meth c T locs cells slots) {R' : Room} (hf : R'.frames ≤ R.frames) (hl : R'.locals ≤ R.locals) (hc : cells + R'.cells ≤ R.cells) (hs : slots + R'.slots ≤ R.slots) :
    Stand p l e R' ((T.setVm s.vm).setFrames (.invoking m args :: below)) m args below meth c T [] 0 0 := by
  have htop : (T.setVm s.vm).topJava?.isSome := X.here.top
  have hF : ((T.setVm s.vm).setFrames (.invoking m args :: below)).frames = .invoking m args :: below := State.frames_setFrames _ (State.cur_lt_of_top htop)
  obtain ⟨g₀, hg0⟩ := Option.isSome_iff_exists.mp htop
  obtain ⟨r, hr⟩ := State.topJava?_eq_some.mp hg0
  have hl9 : e.platform.stackLimits (T.setVm s.vm).me = e.platform.stackLimits s.me := X.limits
  have hb9 : (T.setVm s.vm).me.stackBytes = s.me.stackBytes := X.bytes
  refine ⟨X.admits, X.cas, X.clock, hF, ?_, X.hears, X.method, X.code, X.here, X.tail, X.warmed, ?_, ?_, ?_⟩
  · have h := X.room
    have hU : ((T.setVm s.vm).setFrames (.invoking m args :: below)).localsInUse = s.localsInUse := by
      rw [State.localsInUse_invoking hF (meth := meth) (c := c) X.method X.code, State.localsInUse_invoking X.frames X.method X.code]
    simp only [State.hasRoom, Bool.and_eq_true, decide_eq_true_eq] at h ⊢
    obtain ⟨⟨⟨⟨h1, h2, h3, h4, h5, h6⟩, h7⟩, h8⟩, h9⟩ := h
    rw [X.frames, List.length_cons] at h2 h3
    have q1 := X.heapSize
    have q2 := X.used
    simp only [hF, hU, List.length_cons, State.stackLimits_setFrames, State.stackBytes_setFrames, hl9, hb9]
    refine ⟨⟨⟨⟨by omega, by omega, by omega, by omega, by omega, h6⟩, ?_⟩, ?_⟩, X.book⟩
    · show T.heap.size + R'.cells ≤ e.platform.maxCells
      omega
    · show T.slotsUsed + R'.slots ≤ e.platform.maxSlots
      omega
  · rw [State.stackLimits_setFrames]; rfl
  · rw [State.stackBytes_setFrames]; rfl
  · refine ⟨?_, Nat.le_refl _, Nat.le_refl _, ?_, ?_, fun a c9 h9 => ⟨c9, h9, rfl, rfl, fun _ _ => rfl⟩⟩
    · obtain ⟨t, ht, -⟩ := State.frames_cons hr
      show T.setVm s.vm = { ((T.setVm s.vm).setFrames (.invoking m args :: below)).setFrames (T.setVm s.vm).frames with heap := T.heap, slotsUsed := T.slotsUsed }
      rw [State.setFrames_setFrames, State.setFrames_self ht]
      rfl
    · show T.slotsUsed = T.slotsUsed + ((T.heap.toList.drop T.heap.size).map (·.slots.size)).sum
      rw [List.drop_eq_nil_of_le (Nat.le_of_eq Array.length_toList)]
      rfl
    · show ((T.heap.toList.drop T.heap.size).map (·.slots.size)).sum ≤ 0
      rw [List.drop_eq_nil_of_le (Nat.le_of_eq Array.length_toList)]
      exact Nat.le_refl _
/-- 'throw new E()': new; dup; invokespecial; athrow -/
theorem vx_throw0 {cc : ByteArray} {pc : Nat} (hexec : p.tables.exec = Jvm.exec) (hb : c.code = cc) (hl : l.stackTraces = false) {own cls : String} {names : List String} {ik ic mc ms : Nat} {A : Nat → Prop}
    (hown : s.vm.findClass own = some m.cls) (hcls : Bundle.fit cls = true) (hnames : ∀ n ∈ names, Bundle.fit n = true)
    (hk : (Cond.classLink own ik cls).before args s = true) (hini : (Cond.initialized cls).before args s = true) (hat : ∀ w ∈ vx_at0 own ic cls names, w.before args s = true)
    (hgood : ∀ w ∈ Cond.classLink own ik cls :: Cond.initialized cls :: vx_at0 own ic cls names, vx_ot w = true)
    (hU : vx_Zq Bundle.tN "UNASSIGNED_STACK" Bundle.steD A s s.heap) (hN : vx_Zq Bundle.tN "SUPPRESSED_SENTINEL" Bundle.listD A s s.heap) (hS : va_S A s.heap H locs) (hsize : ls.size = c.maxLocals)
    (d0 : decode cc pc = .ok (.new ik, 3)) (d3 : decode cc (pc + 3) = .ok (.dup, 1)) (d4 : decode cc (pc + 4) = .ok (.invokespecial ic, 3)) (d7 : decode cc (pc + 7) = .ok (.athrow, 1))
    (hout : ∀ x ∈ c.exceptionTable.toList, covers x (pc + 7) = false)
    (hRframes : names.length + 3 < R.frames) (hRlocals : (rest.map fun v => v.category).sum + (13 * (names.length + 1) + 42) ≤ R.locals) (hRcells : cells + 1 ≤ R.cells) (hRslots : slots + 6 ≤ R.slots) (hlocks : meth.locks = false)
    (hx : ∀ t : State, s.vm.Alike t.vm → H.size ≤ t.heap.size → (∀ q : Nat, q < H.size → t.heap[q]? = H[q]?) → XC cls s t)
    (hf : ∀ z ∈ locs, free z.base) (hc : cells + 1 ≤ mc) (hs : slots + 6 ≤ ms) :
    W p l e R s m args below meth c H locs cells slots (vx_MQ below Qc XC args s mc ms free) (F0 m pc ls rest) := by
  intro T hT X
  have htr : e.platform.stackTraces = false := (show e.platform.stackTraces = l.stackTraces by rw [X.admits.platform]).trans hl
  have Y := vx_rebase X (R' := { frames := R.frames, locals := R.locals, cells := 1, slots := 6 }) (Nat.le_refl _) (Nat.le_refl _) hRcells hRslots
  obtain ⟨s', hA⟩ : ∃ z, z = (T.setVm s.vm).setFrames (.invoking m args :: below) := ⟨_, rfl⟩
  rw [← hA] at Y
  have hvm : s'.vm = s.vm := by rw [hA]; rfl
  have hhp : s'.heap = H := by rw [hA]; exact hT
  have hW0 : s.WarmedH s'.vm := by rw [hvm]; exact State.WarmedH.refl s
  have hat' : ∀ w ∈ vx_at0 own ic cls names, w.before args s' = true := fun w hw => vx_ot_at hW0 hvm.symm (hgood w (List.mem_cons_of_mem _ (List.mem_cons_of_mem _ hw))) (hat w hw)
  have hk' : (Cond.classLink own ik cls).before args s' = true := vx_ot_at hW0 hvm.symm (hgood _ List.mem_cons_self) hk
  have hini' : (Cond.initialized cls).before args s' = true := vx_ot_at hW0 hvm.symm (hgood _ (List.mem_cons_of_mem _ List.mem_cons_self)) hini
  have hU' : vx_Zq Bundle.tN "UNASSIGNED_STACK" Bundle.steD A s' s'.heap := by rw [hhp]; exact vx_Zq.moved hW0.alike (hU.kept hS.2.1)
  have hN' : vx_Zq Bundle.tN "SUPPRESSED_SENTINEL" Bundle.listD A s' s'.heap := by rw [hhp]; exact vx_Zq.moved hW0.alike (hN.kept hS.2.1)
  have h : ∀ w ∈ Bundle.ownAtoms0 own ic cls names, w.before args s' = true := vx_own hat' (vx_isRefq hU'.1) (vx_isRefq hN'.1) hU'.2.word hN'.2.word
  have hown' : s'.vm.findClass own = some m.cls := by rw [hvm]; exact hown
  have hins : (Cond.instantiable cls 6).before args s' = true := h _ (by simp [Bundle.ownAtoms0])
  obtain ⟨vm₁, cX, kX, hfX, hkX, -, -, X₁, st1⟩ := Y.newCold hexec (own := own) (C := cls) (index := ik) (n := 6) hown' hk' hins hini'
    (g := F0 m pc ls rest) rfl (by rw [hb]; exact d0) (Nat.le_refl _) (Nat.le_refl _)
  generalize hT1 : (T.setVm vm₁).pushCell { cls := cX, slots := kX.instanceTypes.map defaultValue, vm := .none } = T1 at X₁ st1
  have hcat : (Value.ref T.heap.size).category = 1 := rfl
  have hcellA : T1.heap[T.heap.size]? = some (freshCell cX kX) := by rw [← hT1]; exact State.heap_pushCell_size _ _
  have d3' : decode c.code (pc + 3) = .ok (.dup, 1) := by rw [hb]; exact d3
  obtain ⟨U, hsteps, hrun, hend, hW, hsame, ce, hce, hO⟩ := X₁.ctorThrow0 hexec htr (own := own) (cls := cls) (names := names) (ic := ic) hown' hcls hnames h (fun x hx => nomatch hx) hfX hkX hcellA (by rw [hhp, hT]; exact Nat.le_refl _)
    (g := { method := m, pc := pc + 4, locals := ls, stack := .ref T.heap.size :: .ref T.heap.size :: rest, locked := none }) rfl hsize rfl rfl (rest := rest) rfl
    (by rw [hb]; exact d4) (by rw [hb]; exact d7) hout hRframes (by simp only [List.map_cons, List.sum_cons, hcat]; omega) hlocks
  obtain ⟨f1, f2⟩ := vx_frame hsame
  rw [hhp] at f1 f2
  have hWs : s.WarmedH U.vm := State.WarmedH.trans hW0 hW
  have hcl : s.vm.findClass cls = some ce.cls := by
    have h9 := hO.cls
    rw [hvm] at h9
    exact h9
  have hall : s.sameButNew ({ U with vm := s.vm } : State) locs mc ms := by
    subst hA
    obtain ⟨e1, e2⟩ := hsame
    rw [State.setFrames_setFrames] at e1
    have h2 : (T.setVm s.vm).sameButNew ({ U with vm := s.vm } : State) [] (0 + 1) (0 + 6) := ⟨e1, e2⟩
    have h3 := X.same.trans h2
    rw [List.append_nil] at h3
    exact h3.mono hc hs
  refine ⟨U, ?_, .threw T.heap.size, hrun, hend, Or.inr ⟨T.heap.size, rfl, cls, ce, locs, hx U hWs.alike f1 (fun q hq => f2 q hq (fun z hz => nomatch hz)), hce, hO.vm, hcl, hWs, hall, hf⟩⟩
  refine st1 _ ?_
  show Steps p.tables e below (T1.setTop { method := m, pc := pc + 3, locals := ls, stack := .ref T.heap.size :: rest, locked := none }) _
  jvm_step X₁.here [X₁.here.top, hexec, d3', Value.category]
  exact hsteps
/-- 'throw new E("text")': new; dup; ldc; invokespecial; athrow -/
theorem vx_throwS {cc : ByteArray} {pc : Nat} (hexec : p.tables.exec = Jvm.exec) (hb : c.code = cc) (hl : l.stackTraces = false) {own cls text : String} {names : List String} {ik is ic mc ms sa : Nat} {A : Nat → Prop}
    (hown : s.vm.findClass own = some m.cls) (hcls : Bundle.fit cls = true) (hnames : ∀ n ∈ names, Bundle.fit n = true)
    (hk : (Cond.classLink own ik cls).before args s = true) (hini : (Cond.initialized cls).before args s = true) (hstr : vk_R own is text sa s) (hat : ∀ w ∈ vx_atS own ic cls names, w.before args s = true)
    (hgood : ∀ w ∈ Cond.classLink own ik cls :: Cond.initialized cls :: vx_atS own ic cls names, vx_ot w = true)
    (hU : vx_Zq Bundle.tN "UNASSIGNED_STACK" Bundle.steD A s s.heap) (hN : vx_Zq Bundle.tN "SUPPRESSED_SENTINEL" Bundle.listD A s s.heap) (hS : va_S A s.heap H locs) (hsize : ls.size = c.maxLocals)
    (d0 : decode cc pc = .ok (.new ik, 3)) (d3 : decode cc (pc + 3) = .ok (.dup, 1)) (d4 : decode cc (pc + 4) = .ok (.ldc is, 2)) (d6 : decode cc (pc + 6) = .ok (.invokespecial ic, 3)) (d9 : decode cc (pc + 9) = .ok (.athrow, 1))
    (hout : ∀ x ∈ c.exceptionTable.toList, covers x (pc + 9) = false)
    (hRframes : names.length + 3 < R.frames) (hRlocals : (rest.map fun v => v.category).sum + (13 * (names.length + 1) + 43) ≤ R.locals) (hRcells : cells + 1 ≤ R.cells) (hRslots : slots + 6 ≤ R.slots) (hlocks : meth.locks = false)
    (hx : ∀ t : State, s.vm.Alike t.vm → H.size ≤ t.heap.size → (∀ q : Nat, q < H.size → t.heap[q]? = H[q]?) → XC cls s t)
    (hf : ∀ z ∈ locs, free z.base) (hc : cells + 1 ≤ mc) (hs : slots + 6 ≤ ms) :
    W p l e R s m args below meth c H locs cells slots (vx_MQ below Qc XC args s mc ms free) (F0 m pc ls rest) := by
  intro T hT X
  have htr : e.platform.stackTraces = false := (show e.platform.stackTraces = l.stackTraces by rw [X.admits.platform]).trans hl
  have Y := vx_rebase X (R' := { frames := R.frames, locals := R.locals, cells := 1, slots := 6 }) (Nat.le_refl _) (Nat.le_refl _) hRcells hRslots
  obtain ⟨s', hA⟩ : ∃ z, z = (T.setVm s.vm).setFrames (.invoking m args :: below) := ⟨_, rfl⟩
  rw [← hA] at Y
  have hvm : s'.vm = s.vm := by rw [hA]; rfl
  have hhp : s'.heap = H := by rw [hA]; exact hT
  have hW0 : s.WarmedH s'.vm := by rw [hvm]; exact State.WarmedH.refl s
  have hat' : ∀ w ∈ vx_atS own ic cls names, w.before args s' = true := fun w hw => vx_ot_at hW0 hvm.symm (hgood w (List.mem_cons_of_mem _ (List.mem_cons_of_mem _ hw))) (hat w hw)
  have hk' : (Cond.classLink own ik cls).before args s' = true := vx_ot_at hW0 hvm.symm (hgood _ List.mem_cons_self) hk
  have hini' : (Cond.initialized cls).before args s' = true := vx_ot_at hW0 hvm.symm (hgood _ (List.mem_cons_of_mem _ List.mem_cons_self)) hini
  have hU' : vx_Zq Bundle.tN "UNASSIGNED_STACK" Bundle.steD A s' s'.heap := by rw [hhp]; exact vx_Zq.moved hW0.alike (hU.kept hS.2.1)
  have hN' : vx_Zq Bundle.tN "SUPPRESSED_SENTINEL" Bundle.listD A s' s'.heap := by rw [hhp]; exact vx_Zq.moved hW0.alike (hN.kept hS.2.1)
  have h : ∀ w ∈ Bundle.ownAtoms own ic cls names, w.before args s' = true := vx_own hat' (vx_isRefq hU'.1) (vx_isRefq hN'.1) hU'.2.word hN'.2.word
  have hown' : s'.vm.findClass own = some m.cls := by rw [hvm]; exact hown
  have hins : (Cond.instantiable cls 6).before args s' = true := h _ (by simp [Bundle.ownAtoms])
  obtain ⟨vm₁, cX, kX, hfX, hkX, -, -, X₁, st1⟩ := Y.newCold hexec (own := own) (C := cls) (index := ik) (n := 6) hown' hk' hins hini'
    (g := F0 m pc ls rest) rfl (by rw [hb]; exact d0) (Nat.le_refl _) (Nat.le_refl _)
  generalize hT1 : (T.setVm vm₁).pushCell { cls := cX, slots := kX.instanceTypes.map defaultValue, vm := .none } = T1 at X₁ st1
  have hcat : (Value.ref T.heap.size).category = 1 := rfl
  have hcellA : T1.heap[T.heap.size]? = some (freshCell cX kX) := by rw [← hT1]; exact State.heap_pushCell_size _ _
  have d3' : decode c.code (pc + 3) = .ok (.dup, 1) := by rw [hb]; exact d3
  have d4' : decode c.code (pc + 4) = .ok (.ldc is, 2) := by rw [hb]; exact d4
  have hstr' : vk_R own is text sa s' := vk_R.warm hW0 hstr
  obtain ⟨U, hsteps, hrun, hend, hW, hsame, ce, hce, hO⟩ := X₁.ctorThrowS hexec htr (own := own) (cls := cls) (names := names) (ic := ic) hown' hcls hnames h (fun x hx => nomatch hx) hfX hkX hcellA (by rw [hhp, hT]; exact Nat.le_refl _) (msg := .ref sa) rfl
    (g := { method := m, pc := pc + 6, locals := ls, stack := .ref sa :: .ref T.heap.size :: .ref T.heap.size :: rest, locked := none }) rfl hsize rfl rfl (rest := rest) rfl
    (by rw [hb]; exact d6) (by rw [hb]; exact d9) hout hRframes (by simp only [List.map_cons, List.sum_cons, hcat]; omega) hlocks
  obtain ⟨f1, f2⟩ := vx_frame hsame
  rw [hhp] at f1 f2
  have hWs : s.WarmedH U.vm := State.WarmedH.trans hW0 hW
  have hcl : s.vm.findClass cls = some ce.cls := by
    have h9 := hO.cls
    rw [hvm] at h9
    exact h9
  have hall : s.sameButNew ({ U with vm := s.vm } : State) locs mc ms := by
    subst hA
    obtain ⟨e1, e2⟩ := hsame
    rw [State.setFrames_setFrames] at e1
    have h2 : (T.setVm s.vm).sameButNew ({ U with vm := s.vm } : State) [] (0 + 1) (0 + 6) := ⟨e1, e2⟩
    have h3 := X.same.trans h2
    rw [List.append_nil] at h3
    exact h3.mono hc hs
  refine ⟨U, ?_, .threw T.heap.size, hrun, hend, Or.inr ⟨T.heap.size, rfl, cls, ce, locs, hx U hWs.alike f1 (fun q hq => f2 q hq (fun z hz => nomatch hz)), hce, hO.vm, hcl, hWs, hall, hf⟩⟩
  refine st1 _ ?_
  show Steps p.tables e below (T1.setTop { method := m, pc := pc + 3, locals := ls, stack := .ref T.heap.size :: rest, locked := none }) _
  jvm_step X₁.here [X₁.here.top, hexec, d3', Value.category]
  exact X₁.ldcString hexec (own := own) (text := text) (index := is) (a := sa) hown' hstr'.1 hstr'.2
    (g := { method := m, pc := pc + 4, locals := ls, stack := .ref T.heap.size :: .ref T.heap.size :: rest, locked := none }) rfl d4' _ hsteps
/-- 'throw new E("text")', the text by a wide index -/
theorem vx_throwSW {cc : ByteArray} {pc : Nat} (hexec : p.tables.exec = Jvm.exec) (hb : c.code = cc) (hl : l.stackTraces = false) {own cls text : String} {names : List String} {ik is ic mc ms sa : Nat} {A : Nat → Prop}
    (hown : s.vm.findClass own = some m.cls) (hcls : Bundle.fit cls = true) (hnames : ∀ n ∈ names, Bundle.fit n = true)
    (hk : (Cond.classLink own ik cls).before args s = true) (hini : (Cond.initialized cls).before args s = true) (hstr : vk_R own is text sa s) (hat : ∀ w ∈ vx_atS own ic cls names, w.before args s = true)
    (hgood : ∀ w ∈ Cond.classLink own ik cls :: Cond.initialized cls :: vx_atS own ic cls names, vx_ot w = true)
    (hU : vx_Zq Bundle.tN "UNASSIGNED_STACK" Bundle.steD A s s.heap) (hN : vx_Zq Bundle.tN "SUPPRESSED_SENTINEL" Bundle.listD A s s.heap) (hS : va_S A s.heap H locs) (hsize : ls.size = c.maxLocals)
    (d0 : decode cc pc = .ok (.new ik, 3)) (d3 : decode cc (pc + 3) = .ok (.dup, 1)) (d4 : decode cc (pc + 4) = .ok (.ldc_w is, 3)) (d7 : decode cc (pc + 7) = .ok (.invokespecial ic, 3)) (d10 : decode cc (pc + 10) = .ok (.athrow, 1))
    (hout : ∀ x ∈ c.exceptionTable.toList, covers x (pc + 10) = false)
    (hRframes : names.length + 3 < R.frames) (hRlocals : (rest.map fun v => v.category).sum + (13 * (names.length + 1) + 43) ≤ R.locals) (hRcells : cells + 1 ≤ R.cells) (hRslots : slots + 6 ≤ R.slots) (hlocks : meth.locks = false)
    (hx : ∀ t : State, s.vm.Alike t.vm → H.size ≤ t.heap.size → (∀ q : Nat, q < H.size → t.heap[q]? = H[q]?) → XC cls s t)
    (hf : ∀ z ∈ locs, free z.base) (hc : cells + 1 ≤ mc) (hs : slots + 6 ≤ ms) :
    W p l e R s m args below meth c H locs cells slots (vx_MQ below Qc XC args s mc ms free) (F0 m pc ls rest) := by
  intro T hT X
  have htr : e.platform.stackTraces = false := (show e.platform.stackTraces = l.stackTraces by rw [X.admits.platform]).trans hl
  have Y := vx_rebase X (R' := { frames := R.frames, locals := R.locals, cells := 1, slots := 6 }) (Nat.le_refl _) (Nat.le_refl _) hRcells hRslots
  obtain ⟨s', hA⟩ : ∃ z, z = (T.setVm s.vm).setFrames (.invoking m args :: below) := ⟨_, rfl⟩
  rw [← hA] at Y
  have hvm : s'.vm = s.vm := by rw [hA]; rfl
  have hhp : s'.heap = H := by rw [hA]; exact hT
  have hW0 : s.WarmedH s'.vm := by rw [hvm]; exact State.WarmedH.refl s
  have hat' : ∀ w ∈ vx_atS own ic cls names, w.before args s' = true := fun w hw => vx_ot_at hW0 hvm.symm (hgood w (List.mem_cons_of_mem _ (List.mem_cons_of_mem _ hw))) (hat w hw)
  have hk' : (Cond.classLink own ik cls).before args s' = true := vx_ot_at hW0 hvm.symm (hgood _ List.mem_cons_self) hk
  have hini' : (Cond.initialized cls).before args s' = true := vx_ot_at hW0 hvm.symm (hgood _ (List.mem_cons_of_mem _ List.mem_cons_self)) hini
  have hU' : vx_Zq Bundle.tN "UNASSIGNED_STACK" Bundle.steD A s' s'.heap := by rw [hhp]; exact vx_Zq.moved hW0.alike (hU.kept hS.2.1)
  have hN' : vx_Zq Bundle.tN "SUPPRESSED_SENTINEL" Bundle.listD A s' s'.heap := by rw [hhp]; exact vx_Zq.moved hW0.alike (hN.kept hS.2.1)
  have h : ∀ w ∈ Bundle.ownAtoms own ic cls names, w.before args s' = true := vx_own hat' (vx_isRefq hU'.1) (vx_isRefq hN'.1) hU'.2.word hN'.2.word
  have hown' : s'.vm.findClass own = some m.cls := by rw [hvm]; exact hown
  have hins : (Cond.instantiable cls 6).before args s' = true := h _ (by simp [Bundle.ownAtoms])
  obtain ⟨vm₁, cX, kX, hfX, hkX, -, -, X₁, st1⟩ := Y.newCold hexec (own := own) (C := cls) (index := ik) (n := 6) hown' hk' hins hini'
    (g := F0 m pc ls rest) rfl (by rw [hb]; exact d0) (Nat.le_refl _) (Nat.le_refl _)
  generalize hT1 : (T.setVm vm₁).pushCell { cls := cX, slots := kX.instanceTypes.map defaultValue, vm := .none } = T1 at X₁ st1
  have hcat : (Value.ref T.heap.size).category = 1 := rfl
  have hcellA : T1.heap[T.heap.size]? = some (freshCell cX kX) := by rw [← hT1]; exact State.heap_pushCell_size _ _
  have d3' : decode c.code (pc + 3) = .ok (.dup, 1) := by rw [hb]; exact d3
  have d4' : decode c.code (pc + 4) = .ok (.ldc_w is, 3) := by rw [hb]; exact d4
  have hstr' : vk_R own is text sa s' := vk_R.warm hW0 hstr
  obtain ⟨U, hsteps, hrun, hend, hW, hsame, ce, hce, hO⟩ := X₁.ctorThrowS hexec htr (own := own) (cls := cls) (names := names) (ic := ic) hown' hcls hnames h (fun x hx => nomatch hx) hfX hkX hcellA (by rw [hhp, hT]; exact Nat.le_refl _) (msg := .ref sa) rfl
    (g := { method := m, pc := pc + 7, locals := ls, stack := .ref sa :: .ref T.heap.size :: .ref T.heap.size :: rest, locked := none }) rfl hsize rfl rfl (rest := rest) rfl
    (by rw [hb]; exact d7) (by rw [hb]; exact d10) hout hRframes (by simp only [List.map_cons, List.sum_cons, hcat]; omega) hlocks
  obtain ⟨f1, f2⟩ := vx_frame hsame
  rw [hhp] at f1 f2
  have hWs : s.WarmedH U.vm := State.WarmedH.trans hW0 hW
  have hcl : s.vm.findClass cls = some ce.cls := by
    have h9 := hO.cls
    rw [hvm] at h9
    exact h9
  have hall : s.sameButNew ({ U with vm := s.vm } : State) locs mc ms := by
    subst hA
    obtain ⟨e1, e2⟩ := hsame
    rw [State.setFrames_setFrames] at e1
    have h2 : (T.setVm s.vm).sameButNew ({ U with vm := s.vm } : State) [] (0 + 1) (0 + 6) := ⟨e1, e2⟩
    have h3 := X.same.trans h2
    rw [List.append_nil] at h3
    exact h3.mono hc hs
  refine ⟨U, ?_, .threw T.heap.size, hrun, hend, Or.inr ⟨T.heap.size, rfl, cls, ce, locs, hx U hWs.alike f1 (fun q hq => f2 q hq (fun z hz => nomatch hz)), hce, hO.vm, hcl, hWs, hall, hf⟩⟩
  refine st1 _ ?_
  show Steps p.tables e below (T1.setTop { method := m, pc := pc + 3, locals := ls, stack := .ref T.heap.size :: rest, locked := none }) _
  jvm_step X₁.here [X₁.here.top, hexec, d3', Value.category]
  exact X₁.ldcStringW hexec (own := own) (text := text) (index := is) (a := sa) hown' hstr'.1 hstr'.2
    (g := { method := m, pc := pc + 4, locals := ls, stack := .ref T.heap.size :: .ref T.heap.size :: rest, locked := none }) rfl d4' _ hsteps
end Ends
section Bodies
variable {l : Launch}
theorem vx_ofW {y : MethodName} {ws ws' : List Cond} {rm : Room} {Pc : Array Value → State → Prop} {Qc : Array Value → State → Outcome → State → Prop} {XC : String → State → State → Prop} {mc ms : Nat} {free : Addr → Prop} {cc : ByteArray} {maxL : Nat} {ret : Option FieldType}
    (hy : plainName y.cls = true) (hw : ws = Cond.code y cc maxL ret :: ws')
    (body : ∀ p e s m args below meth c s₁, BodyLoose p l y (headSpec ws rm) cc maxL ret e s m args below meth c s₁ → c.maxLocals = maxL → (∀ x ∈ c.exceptionTable.toList, False) → Pc args s →
      W p l e (headSpec ws rm).room s m args below meth c s.heap [] 0 0 (vx_MQ below Qc XC args s mc ms free) (entryFrame m args maxL)) : vx_Met l y ws rm Pc Qc XC mc ms free := by
  refine MetFree.of_bodyS (code := cc) (maxLocals := maxL) (ret := ret) hy ?_ ?_
  · intro args s m h hn
    obtain ⟨meth, c, h1, h2, h3, h4, h5, h6, -, -⟩ := Cond.code_spec hn (atoms_spec (ws := ws) h _ (by rw [hw]; exact List.mem_cons_self))
    exact ⟨meth, c, h1, h2, h3, h4, h5, h6⟩
  · intro p e s m args below meth c s₁ B hml hP _
    have hh0 : s₁.heap = s.heap := by rw [B.state]; rfl
    have ht : ∀ x ∈ c.exceptionTable.toList, False := by
      obtain ⟨meth9, c9, h1, h2, -, -, -, -, h7, -⟩ := Cond.code_spec B.named (atoms_spec (ws := ws) B.pre _ (by rw [hw]; exact List.mem_cons_self))
      cases Option.some.inj (h1.symm.trans B.method)
      cases Option.some.inj (h2.symm.trans (Stand.of_body B).code)
      intro x hx
      rw [Array.isEmpty_iff.mp h7] at hx
      cases hx
    obtain ⟨t, a1, o, b1, b2, b3⟩ := body p e s m args below meth c s₁ B hml ht hP s₁ hh0 (Stand.of_body B)
    exact ⟨t, o, a1, b1, b2, b3⟩
/-- the table of a body with handlers -/
theorem vx_table {p : Program} {x y : MethodName} {S : Spec} {cc bytes : ByteArray} {maxL maxL' : Nat} {ret ret' : Option FieldType} {e : Env} {s s₁ : State} {m : MethodId} {args : Array Value} {below : List Frame} {meth : Method} {c : Code} {hh : List (Nat × Nat × Nat × Nat)}
    (B : BodyLoose p l y S cc maxL ret e s m args below meth c s₁) (h : (Cond.codeWith y bytes maxL' ret' hh).before args s = true) : c.exceptionTable.toList = tableOf hh := by
  obtain ⟨m9, meth9, c9, hn9, h1, h2, -, -, h6, -⟩ := Cond.codeWith_spec h
  cases Option.some.inj (hn9.symm.trans B.named)
  cases Option.some.inj (h1.symm.trans B.method)
  cases Option.some.inj (h2.symm.trans (Stand.of_body B).code)
  rw [← h6, table_eq]
end Bodies
end VXA
/-! ===== END ===== -/
/-! ===== BEGIN a static call of a method with an exception table ===== -/
section VXS
variable {p : Program} {l : Launch} {e : Env} {R : Room} {s : State} {m : MethodId} {args : Array Value} {below : List Frame} {meth : Method} {c : Code} {T : State} {H : Heap} {locs : List Loc} {cells slots : Nat}
abbrev vx_CSW (R : Room) (s : State) (args : Array Value) (own : String) (index : Nat) (y : MethodName) (bytes : ByteArray) (maxL : Nat) (ret : Option FieldType) (hh : List (Nat × Nat × Nat × Nat)) (ws : List Cond) (rm : Room) (mc ms n : Nat) : Prop :=
  (rm.cells = mc ∧ rm.slots = ms ∧ rm.frames + 1 ≤ R.frames ∧ 8 + (maxL + 11) + rm.locals ≤ R.locals ∧ (∀ w ∈ ws, ∀ (a' : Array Value) (U : State), s.WarmedH U.vm → w.before a' U = true) ∧ Cond.codeWith y bytes maxL ret hh ∈ ws) ∧
  (Cond.codeWith y bytes maxL ret hh).before args s = true ∧ (Cond.initialized y.cls).before args s = true ∧ (y.cls ≠ "java/lang/invoke/MethodHandle" ∧ y.cls ≠ "java/lang/invoke/VarHandle") ∧
  (∀ sig, parseMethodDescriptor y.desc = some sig → n = sig.parameters.length) ∧ (Cond.methodLink own index y).before args s = true ∧ (Cond.static y).before args s = true
theorem vx_cwSW {own : String} {index maxL mc ms : Nat} {y : MethodName} {bytes : ByteArray} {ret : Option FieldType} {hh : List (Nat × Nat × Nat × Nat)} {Ts ws ws' : List Cond} {rm : Room} (n : Nat) (ht : ∀ w ∈ Ts, w.before args s = true) (hT : GoodIn Ts (va_wsS own index y ws)) (hw : ws = Cond.codeWith y bytes maxL ret hh :: ws') (hrc : rm.cells = mc) (hrs : rm.slots = ms)
    (hd : y.cls ≠ "java/lang/invoke/MethodHandle" ∧ y.cls ≠ "java/lang/invoke/VarHandle" ∧ (parseMethodDescriptor y.desc).map (fun d => d.parameters.length) = some n) (hR : rm.frames + 1 ≤ R.frames ∧ 8 + (maxL + 11) + rm.locals ≤ R.locals) :
    vx_CSW R s args own index y bytes maxL ret hh ws rm mc ms n := by
  have ok : ∀ w ∈ va_wsS own index y ws, w.before args s = true := fun w h => ht w (hT w h).1
  have hG : GoodIn Ts ws := fun w h => hT w (by unfold va_wsS; exact List.mem_append_right _ h)
  have hc : Cond.codeWith y bytes maxL ret hh ∈ ws := by rw [hw]; exact List.mem_cons_self
  refine ⟨⟨hrc, hrs, hR.1, hR.2, pay_in ht hG, hc⟩, ht _ (hG _ hc).1, ok _ (by simp [va_wsS]), ⟨hd.1, hd.2.1⟩, fun sig h => ?_, ok _ (by simp [va_wsS]), ok _ (by simp [va_wsS])⟩
  have h2 := hd.2.2
  rw [h] at h2
  exact (Option.some.inj h2).symm
theorem vx_callSW (X : Stand p l e R s m args below meth c T locs cells slots) (hexec : p.tables.exec = Jvm.exec) {own : String} {index : Nat} {y : MethodName} {bytes : ByteArray} {maxL : Nat} {ret : Option FieldType} {hh : List (Nat × Nat × Nat × Nat)}
    (hown : s.vm.findClass own = some m.cls) (hlink : (Cond.methodLink own index y).before args s = true) (hstat : (Cond.static y).before args s = true) (hinit : (Cond.initialized y.cls).before args s = true)
    (hcode : (Cond.codeWith y bytes maxL ret hh).before args s = true) (hy : y.cls ≠ "java/lang/invoke/MethodHandle" ∧ y.cls ≠ "java/lang/invoke/VarHandle")
    {W9 : Nat} {Pre : Pt → Array Value → Prop} {Post : Pt → Array Value → Option Value → Pt → Prop} (hK : Back l R p e below s args y 3 W9 Pre Post)
    {g : JFrame} (hg : g.method = m) (hsize : g.locals.size = c.maxLocals) {argsL rest : List Value} (hlen : ∀ sig, parseMethodDescriptor y.desc = some sig → argsL.length = sig.parameters.length)
    (hstack : g.stack = argsL.reverse ++ rest) (hW : 2 * g.monitorRoom + (rest.map fun v => v.category).sum ≤ W9) (hdg : decode c.code g.pc = .ok (.invokestatic index, 3))
    (hpre : ∀ vm₁, s.WarmedH vm₁ → Pre ⟨T.setVm vm₁, locs, cells, slots⟩ argsL.toArray) :
    ∃ (v : Option Value) (vm₁ : Vm) (B : Pt), s.WarmedH vm₁ ∧ Stand p l e R s m args below meth c B.U B.locs B.cells B.slots ∧ Post ⟨T.setVm vm₁, locs, cells, slots⟩ argsL.toArray v B ∧
      ∀ target, Steps p.tables e below (B.U.setTop { g with pc := g.pc + 3, stack := v.toList ++ rest }) target → Steps p.tables e below (T.setTop g) target := by
  obtain ⟨mk, methM, cM, hnamed, hmethM, -, -, -, -, -, -, hsigM⟩ := Cond.codeWith_spec hcode
  have hstatic : methM.isStatic = true := Cond.static_spec hnamed hmethM hstat
  obtain ⟨kP, hkP, -⟩ := className_of_methodNamed hnamed
  have hinitP : kP.init = .initialized := Cond.initialized_spec (findClass_of_methodNamed hnamed) hkP hinit
  obtain ⟨vm₁, X₁, hstep₁⟩ := X.invokestatic hexec hown hlink hnamed hmethM hstatic hkP hinitP hy (g := g) hg (argsL := argsL) (rest := rest) (hlen _ hsigM) hstack hdg
  obtain ⟨v, B, X', hpost, hsteps⟩ := hK m meth c ⟨T.setVm vm₁, locs, cells, slots⟩ { g with stack := rest } (.invokestatic index) mk argsL.toArray X₁ hg hsize hdg hW (X₁.named hnamed) (hpre vm₁ X₁.warmed)
  exact ⟨v, vm₁, B, X₁.warmed, X', hpost, fun target h => hstep₁ _ fun acts => by rw [doInvoke_state]; exact hsteps.trans h⟩
theorem vx_runSW {y : MethodName} {bytes cc : ByteArray} {maxL nL mc ms n index : Nat} {ret : Option FieldType} {hh : List (Nat × Nat × Nat × Nat)} {ws : List Cond} {rm : Room} {Pc : Array Value → State → Prop} {Qc : Array Value → State → Outcome → State → Prop} {free : Addr → Prop} {Ts : List Cond} {own : String} {As rest : List Value} {g : JFrame}
    (S : CallFix p m c cc nL s args Ts own) (hM : Met l y ws rm Pc Qc mc ms free) (cw : vx_CSW R s args own index y bytes maxL ret hh ws rm mc ms n) (hp : PreS s H Pc As)
    (hg : g.method = m) (hn : As.length = n) (hsize : g.locals.size = nL) (hstack : g.stack = As.reverse ++ rest) (hW : 2 * g.monitorRoom + (rest.map fun v => v.category).sum ≤ 8) (hdg : decode cc g.pc = .ok (.invokestatic index, 3)) (hf : cells + mc ≤ R.cells ∧ slots + ms ≤ R.slots) :
    va_Run p l e R s m args below meth c H locs cells slots mc ms g rest (Qc As.toArray) (free) := by
  obtain ⟨⟨hrc, hrs, hfr, hlo, hws, hcw⟩, hcode, hini, hy, hlen, hl, hstt⟩ := cw
  have hK : Back l R p e below s args y 3 8 (PreOf R mc ms Pc) (PostOf Qc mc ms free) := va_backW (hh := hh) (bytes := bytes) (maxL := maxL) (ret := ret) hM hp.1 hrc hrs hfr hlo hws hcw (fun a' U hW => word_at hW (Or.inl (by first | rfl | simp [Cond.onTables, Cond.keeps, Cond.steady])) hini)
  obtain ⟨hx, hb, hml, ho, -⟩ := S
  intro T hT X
  obtain ⟨v, vm₁, ⟨U', l2, c2, s2⟩, hW₁, X', ⟨g', mk, t, L, e1, e2, hq, h1, hL, h2, h3⟩, st⟩ := vx_callSW X hx (hh := hh) (bytes := bytes) (maxL := maxL) (ret := ret) ho hl hstt hini hcode hy hK hg (hsize.trans hml.symm) (argsL := As) (rest := rest) (fun sig h => hn.trans (hlen sig h)) hstack hW (by rw [hb]; exact hdg)
    (fun vm₁ hW₁ => ⟨hf.1, hf.2, hp.2 (T.setVm vm₁) hT hW₁⟩)
  dsimp only [Pt.U, Pt.locs, Pt.cells, Pt.slots] at X' e1 e2 h1 h2 h3 st
  subst h1; subst h2; subst h3
  exact ⟨v, (T.setVm vm₁).calling g' mk As.toArray, t, U', L, hT, X', hL, e1, e2, hq, st⟩
/-- not caught here, past rows that name other classes: it goes on to the caller -/
theorem vx_outP {p : Program} {l : Launch} {e : Env} {R : Room} {s : State} {m : MethodId} {args : Array Value} {below : List Frame} {meth : Method} {c : Code} {H : Heap} {locs : List Loc} {cells slots : Nat} {free : Addr → Prop} {ls : Array Slot} {rest : List Value} {Qc : Array Value → State → Outcome → State → Prop} {XC : String → State → State → Prop}
    {pc : Nat} {own E : String} {ce : Cell} {q : Addr} {mc ms : Nat} (hown : s.vm.findClass own = some m.cls) (hlocks : meth.locks = false)
    (hpass : ∀ z ∈ c.exceptionTable.toList, covers z pc = false ∨ (z.catchType ≠ 0 ∧ ∃ nm : String, (Cond.classLink own z.catchType nm).before args s = true ∧ va_Nc E nm s)) (hcell : H[q]? = some ce) (hv : ce.vm = .none) (hcl : s.vm.findClass E = some ce.cls)
    (hx : ∀ t : State, t.heap = H → s.vm.Alike t.vm → XC E s t) (hf : ∀ z ∈ locs, free z.base) (hc : cells ≤ mc) (hs : slots ≤ ms) :
    vx_W p l e R s m args below meth c H locs cells slots (vx_MQ below Qc XC args s mc ms free) (F0 m pc ls rest) q := by
  intro T hT X
  have hpl : e.platform.magicAccessors = ({} : Platform).magicAccessors := by rw [X.admits.platform]
  obtain ⟨vm', hW', X', st⟩ := X.outThrough hlocks q (g := F0 m pc ls rest) rfl rfl rfl (cell := ce) (by rw [hT]; exact hcell) (by rw [hv]; rfl)
    (by obtain ⟨k9, h9, -⟩ := Vm.findClass_spec hcl; exact ⟨k9, h9⟩) (fun z hz => by
      rcases hpass z hz with h | ⟨hz0, nm, hl1, hn1⟩
      · exact Or.inl h
      · obtain ⟨c6, hc6, hcl6⟩ := Cond.classLink_spec hown hl1 e.platform hpl
        obtain ⟨a8, b8, h1, h2, h3⟩ := hn1
        cases Option.some.inj (h1.symm.trans hcl)
        cases Option.some.inj (h2.symm.trans hc6)
        exact Or.inr ⟨hz0, _, hcl6, h3⟩)
  obtain ⟨g₀, hfr⟩ := X'.frames_eq
  have hcell9 : ((T.setVm vm').setFrames (.throwing q :: below)).heap[q]? = some ce := by
    show T.heap[q]? = some ce
    rw [hT]; exact hcell
  have hend : Ended ((T.setVm vm').setFrames (.throwing q :: below)) below (.threw q) := State.frames_setFrames _ (State.cur_lt_of_frames hfr)
  refine ⟨(T.setVm vm').setFrames (.throwing q :: below), ?_, .threw q, X'.here.running, hend, Or.inr ⟨q, rfl, E, ce, locs, hx _ hT (X'.ends _).1.alike, hcell9, hv, hcl, (X'.ends _).1, (X'.ends _).2.mono hc hs, hf⟩⟩
  rw [X.pushThrowing_eq]
  exact st
/-- a thing of a world lies in the heap -/
theorem vx_lt {D : va_G} {cl : List vw_C} {ws : va_W} {H1 : Heap} (h : va_P D cl ws H1) {k : Nat} {q : Nat × va_E} (hk : ws[k]? = some q) : q.1 < H1.size := (h k q hk).lt
end VXS
/-! ===== END ===== -/
/-! ===== BEGIN methods with a table of their own: called by a name, returning or throwing ===== -/
section VXH
/-! vx_backW, vx_callVX, vx_callSX, vx_callVW, vx_runVW, vx_runVX, vx_runSX, vx_ofWH follow the same proofs as their sisters above (Free/Laws.lean, Shelf42/LK1.lean); vx_outP calls Shelf42/NT130.lean (outThrough). -/
section
variable {l : Launch} {R : Room} {p : Program} {e : Env} {below : List Frame} {s : State} {sargs : Array Value} {y : MethodName} {len W9 : Nat}
theorem vx_backW {ws : List Cond} {rm : Room} {Pc : Array Value → State → Prop} {Qc : Array Value → State → Outcome → State → Prop} {XC : String → State → State → Prop} {mc ms : Nat} {free : Addr → Prop} {bytes : ByteArray} {maxL : Nat} {ret : Option FieldType} {hh : List (Nat × Nat × Nat × Nat)}
    (hM : vx_Met l y ws rm Pc Qc XC mc ms free) (hblind : FrameBlind Pc) (hrc : rm.cells = mc) (hrs : rm.slots = ms)
    (hframes : rm.frames + 1 ≤ R.frames) (hlocals : W9 + (maxL + 11) + rm.locals ≤ R.locals)
    (hws : ∀ w ∈ ws, ∀ a' U, s.WarmedH U.vm → w.before a' U = true) (hcode : Cond.codeWith y bytes maxL ret hh ∈ ws) (hinit : ∀ a' U, s.WarmedH U.vm → (Cond.initialized y.cls).before a' U = true) :
    vx_Back l R p e below s sargs y len W9 (PreOf R mc ms Pc) (PostOf Qc mc ms free) (vx_Post XC mc ms free) := by
  intro m meth c A g ig mk a X hg hsize hdg hW hn hp
  have h1 : (headSpec ws rm).pre.before a A.U = true := atoms_intro fun w hw => hws w hw _ _ X.warmed
  have h2 : (Cond.codeWith y bytes maxL ret hh).before a A.U = true := hws _ hcode _ _ X.warmed
  have h3 : (Cond.initialized y.cls).before a A.U = true := hinit _ _ X.warmed
  have h4 : A.cells + (headSpec ws rm).room.cells ≤ R.cells := by rw [show (headSpec ws rm).room.cells = mc from hrc]; exact hp.1
  have h5 : A.slots + (headSpec ws rm).room.slots ≤ R.slots := by rw [show (headSpec ws rm).room.slots = ms from hrs]; exact hp.2.1
  have hPc : Pc a (A.U.calling g mk a) := hblind _ _ _ _ hp.2.2
  obtain ⟨U, Ls, c0, s0⟩ := A
  dsimp only [Pt.U, Pt.locs, Pt.cells, Pt.slots] at h1 h2 h3 h4 h5 X hn hPc ⊢
  obtain ⟨m9, methY, cY, hn9, hmY, hcY, -, hlY, -⟩ := Cond.codeWith_spec h2
  cases Option.some.inj (hn9.symm.trans hn)
  obtain ⟨kY, hkY, -⟩ := className_of_methodNamed hn
  have hinitY : kY.init = .initialized := Cond.initialized_spec (findClass_of_methodNamed hn) hkY h3
  have h : At U g.method c below := by rw [hg]; exact X.here
  have hlocals9 : W9 + (maxL + 11) + (headSpec ws rm).room.locals ≤ R.locals := hlocals
  have happ : (headSpec ws rm).appliesLoose y e.platform (U.calling g mk a) = true :=
    Spec.appliesLoose_calling (g := g) h hdg hn hkY hinitY
      (X.room_calling (g := g) (R' := (headSpec ws rm).room) hsize hmY hcY hframes (by rw [hlY]; omega) h4 h5) h1
  obtain ⟨mid, hmid⟩ := h.above
  have hfr : (U.setTop g).frames = (.java g :: mid) ++ below := by rw [State.frames_setTop' g h.top, hmid]; rfl
  obtain ⟨o, s₂, hsteps, -, hend, hq⟩ := Steps.callFree hM p X.admits X.cas X.clock (acts := []) hfr happ hPc trivial
  have hq' : vx_Q Qc XC mc ms free a (U.calling g mk a) o s₂ := hq
  rw [State.frames_setTop' g h.top] at hend
  obtain ⟨g₀, hg0⟩ := Option.isSome_iff_exists.mp h.top
  obtain ⟨r, hr⟩ := State.topJava?_eq_some.mp hg0
  have hr' : (({ U with heap := s₂.heap, slotsUsed := s₂.slotsUsed } : State).setVm s₂.vm).frames = .java g₀ :: r := hr
  rcases hq' with ⟨hqc, L, hfe, hL⟩ | ⟨q, rfl, E, ce, L, hx, hce, hcv, hcl, hW₂, hsm, hL⟩
  · obtain ⟨⟨v, rfl⟩, hW₂, e2, q2, q3, q4, q5, q6⟩ := id hfe
    have e3 : s₂ = ({ (U.calling g mk a).setFrames s₂.frames with heap := s₂.heap, slotsUsed := s₂.slotsUsed } : State).setVm s₂.vm := by
      have : s₂ = ({ s₂ with vm := (U.calling g mk a).vm } : State).setVm s₂.vm := rfl
      rw [e2] at this
      exact this
    obtain ⟨c₂, i₂, len₂, hc₂, hd₂, hf₂⟩ := hend
    have hW' : U.WarmedH s₂.vm := hW₂
    have hcc : c₂ = c := by
      have h1 : s₂.code? g.method = U.code? g.method := by
        rw [State.code?_eq, State.code?_eq, hW'.alike.method?]
      exact Option.some.inj (hc₂.symm.trans (h1.trans h.code))
    subst hcc
    have hlen : len₂ = len := by rw [hdg] at hd₂; cases hd₂; rfl
    subst hlen
    have hs₂ : s₂ = (({ U with heap := s₂.heap, slotsUsed := s₂.slotsUsed } : State).setVm s₂.vm).setTop { g with pc := g.pc + len₂, stack := v.toList ++ g.stack } := by
      refine e3.trans ?_
      rw [hf₂, State.calling_eq h.top, State.setFrames_setFrames, State.setTop_of_frames _ hr', hr]
      rfl
    have hsame : U.sameButNew ({ U with heap := s₂.heap, slotsUsed := s₂.slotsUsed } : State) L mc ms := by
      refine ⟨?_, q2, q3, q4, q5, q6⟩
      obtain ⟨t, ht, -⟩ := State.frames_cons hr
      show ({ U with heap := s₂.heap, slotsUsed := s₂.slotsUsed } : State) = { U.setFrames U.frames with heap := s₂.heap, slotsUsed := s₂.slotsUsed }
      rw [State.setFrames_self ht]
    subst hg
    refine Or.inl ⟨v, ⟨(({ U with heap := s₂.heap, slotsUsed := s₂.slotsUsed } : State).setVm s₂.vm), Ls ++ L, c0 + mc, s0 + ms⟩,
      ⟨X.admits, X.cas, X.clock, X.frames, X.room, X.hears, X.method, X.code, (X.here.setHeapUsed s₂.heap s₂.slotsUsed).setVm hW'.alike, X.tail, State.WarmedH.trans X.warmed hW', X.limits, X.bytes, X.same.trans (hsame.setVm s.vm)⟩,
      ⟨g, mk, s₂, L, rfl, rfl, hqc, rfl, hL, rfl, rfl⟩, ?_⟩
    show Steps p.tables e below _ ((({ U with heap := s₂.heap, slotsUsed := s₂.slotsUsed } : State).setVm s₂.vm).setTop { g with pc := g.pc + len₂, stack := v.toList ++ g.stack })
    rw [← hs₂]
    exact hsteps
  · obtain ⟨e2, q2, q3, q4, q5, q6⟩ := id hsm
    have e3 : s₂ = ({ (U.calling g mk a).setFrames s₂.frames with heap := s₂.heap, slotsUsed := s₂.slotsUsed } : State).setVm s₂.vm := by
      have : s₂ = ({ s₂ with vm := (U.calling g mk a).vm } : State).setVm s₂.vm := rfl
      rw [e2] at this
      exact this
    have hf₂ : s₂.frames = .throwing q :: .java g :: U.frames.tail := hend
    have hW' : U.WarmedH s₂.vm := hW₂
    have hs₂ : s₂ = ((({ U with heap := s₂.heap, slotsUsed := s₂.slotsUsed } : State).setVm s₂.vm).setTop g).pushFrame (.throwing q) := by
      refine e3.trans ?_
      rw [hf₂, State.calling_eq h.top, State.setFrames_setFrames, State.pushFrame, State.frames_setTop _ hr', State.setTop_of_frames _ hr', State.setFrames_setFrames, hr]
      rfl
    have hsame : U.sameButNew ({ U with heap := s₂.heap, slotsUsed := s₂.slotsUsed } : State) L mc ms := by
      refine ⟨?_, q2, q3, q4, q5, q6⟩
      obtain ⟨t, ht, -⟩ := State.frames_cons hr
      show ({ U with heap := s₂.heap, slotsUsed := s₂.slotsUsed } : State) = { U.setFrames U.frames with heap := s₂.heap, slotsUsed := s₂.slotsUsed }
      rw [State.setFrames_self ht]
    subst hg
    refine Or.inr ⟨q, ⟨(({ U with heap := s₂.heap, slotsUsed := s₂.slotsUsed } : State).setVm s₂.vm), Ls ++ L, c0 + mc, s0 + ms⟩,
      ⟨X.admits, X.cas, X.clock, X.frames, X.room, X.hears, X.method, X.code, (X.here.setHeapUsed s₂.heap s₂.slotsUsed).setVm hW'.alike, X.tail, State.WarmedH.trans X.warmed hW', X.limits, X.bytes, X.same.trans (hsame.setVm s.vm)⟩,
      ⟨g, mk, s₂, L, E, ce, rfl, rfl, hx, hce, hcv, hcl, rfl, hL, rfl, rfl⟩, ?_⟩
    show Steps p.tables e below _ (((({ U with heap := s₂.heap, slotsUsed := s₂.slotsUsed } : State).setVm s₂.vm).setTop g).pushFrame (.throwing q))
    rw [← hs₂]
    exact hsteps
end
variable {p : Program} {l : Launch} {e : Env} {R : Room} {s : State} {m : MethodId} {args : Array Value} {below : List Frame} {meth : Method} {c : Code} {T : State} {H : Heap} {locs : List Loc} {cells slots : Nat}
theorem vx_callVX (X : Stand p l e R s m args below meth c T locs cells slots) (hexec : p.tables.exec = Jvm.exec) {own C : String} {index : Nat} {y : MethodName} {bytes : ByteArray} {maxL : Nat} {ret : Option FieldType} {hh : List (Nat × Nat × Nat × Nat)}
    (hown : s.vm.findClass own = some m.cls) (hlink : (Cond.methodLink own index y).before args s = true) (hinst : (Cond.instanceMethod y).before args s = true) (hsel : (Cond.selects C y y).before args s = true)
    (hcode : (Cond.codeWith y bytes maxL ret hh).before args s = true) (hy : y.cls ≠ "java/lang/invoke/MethodHandle" ∧ y.cls ≠ "java/lang/invoke/VarHandle")
    {W9 : Nat} {Pre : Pt → Array Value → Prop} {Post : Pt → Array Value → Option Value → Pt → Prop} {PostX : Pt → Array Value → Addr → Pt → Prop} (hK : vx_Back l R p e below s args y 3 W9 Pre Post PostX)
    {b : Addr} {cellB : Cell} (hcell : T.heap[b]? = some cellB) (hobj : cellB.vm.isStatics = false) (hcls : s.vm.findClass C = some cellB.cls)
    {g : JFrame} (hg : g.method = m) (hsize : g.locals.size = c.maxLocals) {argsL rest : List Value} (hlen : ∀ sig, parseMethodDescriptor y.desc = some sig → argsL.length = sig.parameters.length)
    (hstack : g.stack = argsL.reverse ++ .ref b :: rest) (hW : 2 * g.monitorRoom + (rest.map fun v => v.category).sum ≤ W9) (hdg : decode c.code g.pc = .ok (.invokevirtual index, 3))
    (hpre : ∀ vm₁, s.WarmedH vm₁ → Pre ⟨T.setVm vm₁, locs, cells, slots⟩ (Value.ref b :: argsL).toArray) :
    (∃ (v : Option Value) (vm₁ : Vm) (B : Pt), s.WarmedH vm₁ ∧ Stand p l e R s m args below meth c B.U B.locs B.cells B.slots ∧ Post ⟨T.setVm vm₁, locs, cells, slots⟩ (Value.ref b :: argsL).toArray v B ∧
      ∀ target, Steps p.tables e below (B.U.setTop { g with pc := g.pc + 3, stack := v.toList ++ rest }) target → Steps p.tables e below (T.setTop g) target) ∨
    (∃ (q : Addr) (vm₁ : Vm) (B : Pt), s.WarmedH vm₁ ∧ Stand p l e R s m args below meth c B.U B.locs B.cells B.slots ∧ PostX ⟨T.setVm vm₁, locs, cells, slots⟩ (Value.ref b :: argsL).toArray q B ∧
      Steps p.tables e below (T.setTop g) ((B.U.setTop { g with stack := rest }).pushFrame (.throwing q))) := by
  obtain ⟨mk, methM, hnamed, hmethM, hstM, habM⟩ := Cond.instanceMethod_spec hinst
  obtain ⟨m8, methM', cM, hn8, hmethM', -, -, -, -, -, -, hsigM⟩ := Cond.codeWith_spec hcode
  cases Option.some.inj (hn8.symm.trans hnamed)
  cases hmethM.symm.trans hmethM'
  obtain ⟨c2, r2, m2, q1, q2, q3, q4, kP, hkP, hkPi⟩ := Cond.selects_spec hsel
  cases hcls.symm.trans q1
  cases (State.methodFound?_of_named hnamed hy).symm.trans q2
  cases hnamed.symm.trans q3
  have hselP : selectMethod e.platform s.vm cellB.cls mk = .method mk := by rw [Launch.admits_selectMethod X.admits]; exact q4
  obtain ⟨vm₁, X₁, hstep₁⟩ := X.invokevirtual hexec hown hlink hnamed hmethM hstM hkP hkPi hy (a := b) (cell := cellB) hcell
    (fun z h => by rw [h] at hobj; cases hobj) hselP hmethM habM hkP hkPi (g := g) hg (argsL := argsL) (rest := rest) (hlen _ hsigM) hstack hdg
  rcases hK m meth c ⟨T.setVm vm₁, locs, cells, slots⟩ { g with stack := rest } (.invokevirtual index) mk (Value.ref b :: argsL).toArray X₁ hg hsize hdg hW (X₁.named hnamed) (hpre vm₁ X₁.warmed) with ⟨v, B, X', hpost, hsteps⟩ | ⟨q, B, X', hpost, hsteps⟩
  · exact Or.inl ⟨v, vm₁, B, X₁.warmed, X', hpost, fun target h => hstep₁ _ fun acts => by rw [doInvoke_state]; exact hsteps.trans h⟩
  · exact Or.inr ⟨q, vm₁, B, X₁.warmed, X', hpost, hstep₁ _ fun acts => by rw [doInvoke_state]; exact hsteps⟩
theorem vx_callSX (X : Stand p l e R s m args below meth c T locs cells slots) (hexec : p.tables.exec = Jvm.exec) {own : String} {index : Nat} {y : MethodName} {bytes : ByteArray} {maxL : Nat} {ret : Option FieldType} {hh : List (Nat × Nat × Nat × Nat)}
    (hown : s.vm.findClass own = some m.cls) (hlink : (Cond.methodLink own index y).before args s = true) (hstat : (Cond.static y).before args s = true) (hinit : (Cond.initialized y.cls).before args s = true)
    (hcode : (Cond.codeWith y bytes maxL ret hh).before args s = true) (hy : y.cls ≠ "java/lang/invoke/MethodHandle" ∧ y.cls ≠ "java/lang/invoke/VarHandle")
    {W9 : Nat} {Pre : Pt → Array Value → Prop} {Post : Pt → Array Value → Option Value → Pt → Prop} {PostX : Pt → Array Value → Addr → Pt → Prop} (hK : vx_Back l R p e below s args y 3 W9 Pre Post PostX)
    {g : JFrame} (hg : g.method = m) (hsize : g.locals.size = c.maxLocals) {argsL rest : List Value} (hlen : ∀ sig, parseMethodDescriptor y.desc = some sig → argsL.length = sig.parameters.length)
    (hstack : g.stack = argsL.reverse ++ rest) (hW : 2 * g.monitorRoom + (rest.map fun v => v.category).sum ≤ W9) (hdg : decode c.code g.pc = .ok (.invokestatic index, 3))
    (hpre : ∀ vm₁, s.WarmedH vm₁ → Pre ⟨T.setVm vm₁, locs, cells, slots⟩ argsL.toArray) :
    (∃ (v : Option Value) (vm₁ : Vm) (B : Pt), s.WarmedH vm₁ ∧ Stand p l e R s m args below meth c B.U B.locs B.cells B.slots ∧ Post ⟨T.setVm vm₁, locs, cells, slots⟩ argsL.toArray v B ∧
      ∀ target, Steps p.tables e below (B.U.setTop { g with pc := g.pc + 3, stack := v.toList ++ rest }) target → Steps p.tables e below (T.setTop g) target) ∨
    (∃ (q : Addr) (vm₁ : Vm) (B : Pt), s.WarmedH vm₁ ∧ Stand p l e R s m args below meth c B.U B.locs B.cells B.slots ∧ PostX ⟨T.setVm vm₁, locs, cells, slots⟩ argsL.toArray q B ∧
      Steps p.tables e below (T.setTop g) ((B.U.setTop { g with stack := rest }).pushFrame (.throwing q))) := by
  obtain ⟨mk, methM, cM, hnamed, hmethM, -, -, -, -, -, -, hsigM⟩ := Cond.codeWith_spec hcode
  have hstatic : methM.isStatic = true := Cond.static_spec hnamed hmethM hstat
  obtain ⟨kP, hkP, -⟩ := className_of_methodNamed hnamed
  have hinitP : kP.init = .initialized := Cond.initialized_spec (findClass_of_methodNamed hnamed) hkP hinit
  obtain ⟨vm₁, X₁, hstep₁⟩ := X.invokestatic hexec hown hlink hnamed hmethM hstatic hkP hinitP hy (g := g) hg (argsL := argsL) (rest := rest) (hlen _ hsigM) hstack hdg
  rcases hK m meth c ⟨T.setVm vm₁, locs, cells, slots⟩ { g with stack := rest } (.invokestatic index) mk argsL.toArray X₁ hg hsize hdg hW (X₁.named hnamed) (hpre vm₁ X₁.warmed) with ⟨v, B, X', hpost, hsteps⟩ | ⟨q, B, X', hpost, hsteps⟩
  · exact Or.inl ⟨v, vm₁, B, X₁.warmed, X', hpost, fun target h => hstep₁ _ fun acts => by rw [doInvoke_state]; exact hsteps.trans h⟩
  · exact Or.inr ⟨q, vm₁, B, X₁.warmed, X', hpost, hstep₁ _ fun acts => by rw [doInvoke_state]; exact hsteps⟩
theorem vx_callVW (X : Stand p l e R s m args below meth c T locs cells slots) (hexec : p.tables.exec = Jvm.exec) {own C : String} {index : Nat} {y : MethodName} {bytes : ByteArray} {maxL : Nat} {ret : Option FieldType} {hh : List (Nat × Nat × Nat × Nat)}
    (hown : s.vm.findClass own = some m.cls) (hlink : (Cond.methodLink own index y).before args s = true) (hinst : (Cond.instanceMethod y).before args s = true) (hsel : (Cond.selects C y y).before args s = true)
    (hcode : (Cond.codeWith y bytes maxL ret hh).before args s = true) (hy : y.cls ≠ "java/lang/invoke/MethodHandle" ∧ y.cls ≠ "java/lang/invoke/VarHandle")
    {W9 : Nat} {Pre : Pt → Array Value → Prop} {Post : Pt → Array Value → Option Value → Pt → Prop} (hK : Back l R p e below s args y 3 W9 Pre Post)
    {b : Addr} {cellB : Cell} (hcell : T.heap[b]? = some cellB) (hobj : cellB.vm.isStatics = false) (hcls : s.vm.findClass C = some cellB.cls)
    {g : JFrame} (hg : g.method = m) (hsize : g.locals.size = c.maxLocals) {argsL rest : List Value} (hlen : ∀ sig, parseMethodDescriptor y.desc = some sig → argsL.length = sig.parameters.length)
    (hstack : g.stack = argsL.reverse ++ .ref b :: rest) (hW : 2 * g.monitorRoom + (rest.map fun v => v.category).sum ≤ W9) (hdg : decode c.code g.pc = .ok (.invokevirtual index, 3))
    (hpre : ∀ vm₁, s.WarmedH vm₁ → Pre ⟨T.setVm vm₁, locs, cells, slots⟩ (Value.ref b :: argsL).toArray) :
    ∃ (v : Option Value) (vm₁ : Vm) (B : Pt), s.WarmedH vm₁ ∧ Stand p l e R s m args below meth c B.U B.locs B.cells B.slots ∧ Post ⟨T.setVm vm₁, locs, cells, slots⟩ (Value.ref b :: argsL).toArray v B ∧
      ∀ target, Steps p.tables e below (B.U.setTop { g with pc := g.pc + 3, stack := v.toList ++ rest }) target → Steps p.tables e below (T.setTop g) target := by
  obtain ⟨mk, methM, hnamed, hmethM, hstM, habM⟩ := Cond.instanceMethod_spec hinst
  obtain ⟨m8, methM', cM, hn8, hmethM', -, -, -, -, -, -, hsigM⟩ := Cond.codeWith_spec hcode
  cases Option.some.inj (hn8.symm.trans hnamed)
  cases hmethM.symm.trans hmethM'
  obtain ⟨c2, r2, m2, q1, q2, q3, q4, kP, hkP, hkPi⟩ := Cond.selects_spec hsel
  cases hcls.symm.trans q1
  cases (State.methodFound?_of_named hnamed hy).symm.trans q2
  cases hnamed.symm.trans q3
  have hselP : selectMethod e.platform s.vm cellB.cls mk = .method mk := by rw [Launch.admits_selectMethod X.admits]; exact q4
  obtain ⟨vm₁, X₁, hstep₁⟩ := X.invokevirtual hexec hown hlink hnamed hmethM hstM hkP hkPi hy (a := b) (cell := cellB) hcell
    (fun z h => by rw [h] at hobj; cases hobj) hselP hmethM habM hkP hkPi (g := g) hg (argsL := argsL) (rest := rest) (hlen _ hsigM) hstack hdg
  obtain ⟨v, B, X', hpost, hsteps⟩ := hK m meth c ⟨T.setVm vm₁, locs, cells, slots⟩ { g with stack := rest } (.invokevirtual index) mk (Value.ref b :: argsL).toArray X₁ hg hsize hdg hW (X₁.named hnamed) (hpre vm₁ X₁.warmed)
  exact ⟨v, vm₁, B, X₁.warmed, X', hpost, fun target h => hstep₁ _ fun acts => by rw [doInvoke_state]; exact hsteps.trans h⟩
abbrev vx_CVW (R : Room) (s : State) (args : Array Value) (own C : String) (index : Nat) (y : MethodName) (bytes : ByteArray) (maxL : Nat) (ret : Option FieldType) (hh : List (Nat × Nat × Nat × Nat)) (ws : List Cond) (rm : Room) (mc ms n : Nat) : Prop :=
  (rm.cells = mc ∧ rm.slots = ms ∧ rm.frames + 1 ≤ R.frames ∧ 8 + (maxL + 11) + rm.locals ≤ R.locals ∧ (∀ w ∈ ws, ∀ (a' : Array Value) (U : State), s.WarmedH U.vm → w.before a' U = true) ∧ Cond.codeWith y bytes maxL ret hh ∈ ws) ∧
  (Cond.codeWith y bytes maxL ret hh).before args s = true ∧ (Cond.initialized y.cls).before args s = true ∧ (y.cls ≠ "java/lang/invoke/MethodHandle" ∧ y.cls ≠ "java/lang/invoke/VarHandle") ∧
  (∀ sig, parseMethodDescriptor y.desc = some sig → n = sig.parameters.length) ∧ (Cond.methodLink own index y).before args s = true ∧ (Cond.instanceMethod y).before args s = true ∧ (Cond.selects C y y).before args s = true
theorem vx_cwVW {own C : String} {index maxL mc ms : Nat} {y : MethodName} {bytes : ByteArray} {ret : Option FieldType} {hh : List (Nat × Nat × Nat × Nat)} {Ts ws ws' : List Cond} {rm : Room} (n : Nat) (ht : ∀ w ∈ Ts, w.before args s = true) (hT : GoodIn Ts (wsV own index C y ws)) (hw : ws = Cond.codeWith y bytes maxL ret hh :: ws') (hrc : rm.cells = mc) (hrs : rm.slots = ms)
    (hd : y.cls = C ∧ y.cls ≠ "java/lang/invoke/MethodHandle" ∧ y.cls ≠ "java/lang/invoke/VarHandle" ∧ (parseMethodDescriptor y.desc).map (fun d => d.parameters.length) = some n) (hR : rm.frames + 1 ≤ R.frames ∧ 8 + (maxL + 11) + rm.locals ≤ R.locals) :
    vx_CVW R s args own C index y bytes maxL ret hh ws rm mc ms n := by
  obtain ⟨hC, hd⟩ := hd
  subst hC
  have ok : ∀ w ∈ wsV own index y.cls y ws, w.before args s = true := fun w h => ht w (hT w h).1
  have hG : GoodIn Ts ws := fun w h => hT w (by unfold wsV; exact List.mem_append_right _ h)
  have hc : Cond.codeWith y bytes maxL ret hh ∈ ws := by rw [hw]; exact List.mem_cons_self
  refine ⟨⟨hrc, hrs, hR.1, hR.2, pay_in ht hG, hc⟩, ht _ (hG _ hc).1, ok _ (by simp [wsV]), ⟨hd.1, hd.2.1⟩, fun sig h => ?_, ok _ (by simp [wsV]), ok _ (by simp [wsV]), ok _ (by simp [wsV])⟩
  have h2 := hd.2.2
  rw [h] at h2
  exact (Option.some.inj h2).symm
theorem vx_runVW {y : MethodName} {bytes cc : ByteArray} {maxL nL mc ms n index : Nat} {ret : Option FieldType} {hh : List (Nat × Nat × Nat × Nat)} {ws : List Cond} {rm : Room} {Pc : Array Value → State → Prop} {Qc : Array Value → State → Outcome → State → Prop} {free : Addr → Prop} {Ts : List Cond} {own C : String} {b : Addr} {As rest : List Value} {g : JFrame}
    (S : CallFix p m c cc nL s args Ts own) (hM : Met l y ws rm Pc Qc mc ms free) (cw : vx_CVW R s args own C index y bytes maxL ret hh ws rm mc ms n) (hp : PreV s H C b Pc As)
    (hg : g.method = m) (hn : As.length = n) (hsize : g.locals.size = nL) (hstack : g.stack = As.reverse ++ .ref b :: rest) (hW : 2 * g.monitorRoom + (rest.map fun v => v.category).sum ≤ 8) (hdg : decode cc g.pc = .ok (.invokevirtual index, 3)) (hf : cells + mc ≤ R.cells ∧ slots + ms ≤ R.slots) :
    va_Run p l e R s m args below meth c H locs cells slots mc ms g rest (Qc (Value.ref b :: As).toArray) free := by
  obtain ⟨⟨hrc, hrs, hfr, hlo, hws, hcw⟩, hcode, hini, hy, hlen, hl, hin, hse⟩ := cw
  have hK : Back l R p e below s args y 3 8 (PreOf R mc ms Pc) (PostOf Qc mc ms free) := va_backW (hh := hh) (bytes := bytes) (maxL := maxL) (ret := ret) hM hp.1 hrc hrs hfr hlo hws hcw (fun a' U hW => word_at hW (Or.inl (by first | rfl | simp [Cond.onTables, Cond.keeps, Cond.steady])) hini)
  obtain ⟨hx, hb, hml, ho, -⟩ := S
  obtain ⟨-, ⟨cellB, hcB, hoB, hclB⟩, hPc⟩ := hp
  intro T hT X
  obtain ⟨v, vm₁, ⟨U', l2, c2, s2⟩, hW₁, X', ⟨g', mk, t, L, e1, e2, hq, h1, hL, h2, h3⟩, st⟩ := vx_callVW X hx (C := C) (hh := hh) (bytes := bytes) (maxL := maxL) (ret := ret) ho hl hin hse hcode hy hK (by rw [hT]; exact hcB) hoB hclB hg (hsize.trans hml.symm) (argsL := As) (rest := rest) (fun sig h => hn.trans (hlen sig h)) hstack hW (by rw [hb]; exact hdg)
    (fun vm₁ hW₁ => ⟨hf.1, hf.2, hPc (T.setVm vm₁) hT hW₁⟩)
  dsimp only [Pt.U, Pt.locs, Pt.cells, Pt.slots] at X' e1 e2 h1 h2 h3 st
  subst h1; subst h2; subst h3
  exact ⟨v, (T.setVm vm₁).calling g' mk (Value.ref b :: As).toArray, t, U', L, hT, X', hL, e1, e2, hq, st⟩
section
variable {y : MethodName} {bytes cc : ByteArray} {maxL nL mc ms n index : Nat} {ret : Option FieldType} {ws : List Cond} {rm : Room} {Pc : Array Value → State → Prop} {Qc : Array Value → State → Outcome → State → Prop} {XC : String → State → State → Prop} {free : Addr → Prop} {Ts : List Cond} {own C : String} {b : Addr} {As rest : List Value} {g : JFrame}
theorem vx_runVX {hh : List (Nat × Nat × Nat × Nat)} (S : CallFix p m c cc nL s args Ts own) (hM : vx_Met l y ws rm Pc Qc XC mc ms free) (cw : vx_CVW R s args own C index y bytes maxL ret hh ws rm mc ms n) (hp : PreV s H C b Pc As)
    (hg : g.method = m) (hn : As.length = n) (hsize : g.locals.size = nL) (hstack : g.stack = As.reverse ++ .ref b :: rest) (hW : 2 * g.monitorRoom + (rest.map fun v => v.category).sum ≤ 8) (hdg : decode cc g.pc = .ok (.invokevirtual index, 3)) (hf : cells + mc ≤ R.cells ∧ slots + ms ≤ R.slots) :
    vx_Run p l e R s m args below meth c H locs cells slots mc ms g rest (Qc (Value.ref b :: As).toArray) XC free := by
  obtain ⟨⟨hrc, hrs, hfr, hlo, hws, hcw⟩, hcode, hini, hy, hlen, hl, hin, hse⟩ := cw
  have hK : vx_Back l R p e below s args y 3 8 (PreOf R mc ms Pc) (PostOf Qc mc ms free) (vx_Post XC mc ms free) := vx_backW (hh := hh) (bytes := bytes) (maxL := maxL) (ret := ret) hM hp.1 hrc hrs hfr hlo hws hcw (fun a' U hW => word_at hW (Or.inl (by first | rfl | simp [Cond.onTables, Cond.keeps, Cond.steady])) hini)
  obtain ⟨hx, hb, hml, ho, -⟩ := S
  obtain ⟨-, ⟨cellB, hcB, hoB, hclB⟩, hPc⟩ := hp
  intro T hT X
  rcases vx_callVX X hx (C := C) (hh := hh) (bytes := bytes) (maxL := maxL) (ret := ret) ho hl hin hse hcode hy hK (by rw [hT]; exact hcB) hoB hclB hg (hsize.trans hml.symm) (argsL := As) (rest := rest) (fun sig h => hn.trans (hlen sig h)) hstack hW (by rw [hb]; exact hdg)
    (fun vm₁ hW₁ => ⟨hf.1, hf.2, hPc (T.setVm vm₁) hT hW₁⟩) with ⟨v, vm₁, ⟨U', l2, c2, s2⟩, hW₁, X', ⟨g', mk, t, L, e1, e2, hq, h1, hL, h2, h3⟩, st⟩ | ⟨q, vm₁, ⟨U', l2, c2, s2⟩, hW₁, X', ⟨g', mk, t, L, E, ce, e1, e2, hq, hce, hcv, hcl, h1, hL, h2, h3⟩, st⟩
  · dsimp only [Pt.U, Pt.locs, Pt.cells, Pt.slots] at X' e1 e2 h1 h2 h3 st
    subst h1; subst h2; subst h3
    exact Or.inl ⟨v, (T.setVm vm₁).calling g' mk (Value.ref b :: As).toArray, t, U', L, hT, X', hL, e1, e2, hq, st⟩
  · dsimp only [Pt.U, Pt.locs, Pt.cells, Pt.slots] at X' e1 e2 h1 h2 h3 st hcl
    subst h1; subst h2; subst h3
    exact Or.inr ⟨q, (T.setVm vm₁).calling g' mk (Value.ref b :: As).toArray, t, U', L, E, ce, hT, X', hL, e1, e2, hq, hce, hcv, vx_cls hW₁ hcl, st⟩
theorem vx_runSX {hh : List (Nat × Nat × Nat × Nat)} (S : CallFix p m c cc nL s args Ts own) (hM : vx_Met l y ws rm Pc Qc XC mc ms free) (cw : vx_CSW R s args own index y bytes maxL ret hh ws rm mc ms n) (hp : PreS s H Pc As)
    (hg : g.method = m) (hn : As.length = n) (hsize : g.locals.size = nL) (hstack : g.stack = As.reverse ++ rest) (hW : 2 * g.monitorRoom + (rest.map fun v => v.category).sum ≤ 8) (hdg : decode cc g.pc = .ok (.invokestatic index, 3)) (hf : cells + mc ≤ R.cells ∧ slots + ms ≤ R.slots) :
    vx_Run p l e R s m args below meth c H locs cells slots mc ms g rest (Qc As.toArray) XC free := by
  obtain ⟨⟨hrc, hrs, hfr, hlo, hws, hcw⟩, hcode, hini, hy, hlen, hl, hstt⟩ := cw
  have hK : vx_Back l R p e below s args y 3 8 (PreOf R mc ms Pc) (PostOf Qc mc ms free) (vx_Post XC mc ms free) := vx_backW (hh := hh) (bytes := bytes) (maxL := maxL) (ret := ret) hM hp.1 hrc hrs hfr hlo hws hcw (fun a' U hW => word_at hW (Or.inl (by first | rfl | simp [Cond.onTables, Cond.keeps, Cond.steady])) hini)
  obtain ⟨hx, hb, hml, ho, -⟩ := S
  intro T hT X
  rcases vx_callSX X hx (hh := hh) (bytes := bytes) (maxL := maxL) (ret := ret) ho hl hstt hini hcode hy hK hg (hsize.trans hml.symm) (argsL := As) (rest := rest) (fun sig h => hn.trans (hlen sig h)) hstack hW (by rw [hb]; exact hdg)
    (fun vm₁ hW₁ => ⟨hf.1, hf.2, hp.2 (T.setVm vm₁) hT hW₁⟩) with ⟨v, vm₁, ⟨U', l2, c2, s2⟩, hW₁, X', ⟨g', mk, t, L, e1, e2, hq, h1, hL, h2, h3⟩, st⟩ | ⟨q, vm₁, ⟨U', l2, c2, s2⟩, hW₁, X', ⟨g', mk, t, L, E, ce, e1, e2, hq, hce, hcv, hcl, h1, hL, h2, h3⟩, st⟩
  · dsimp only [Pt.U, Pt.locs, Pt.cells, Pt.slots] at X' e1 e2 h1 h2 h3 st
    subst h1; subst h2; subst h3
    exact Or.inl ⟨v, (T.setVm vm₁).calling g' mk As.toArray, t, U', L, hT, X', hL, e1, e2, hq, st⟩
  · dsimp only [Pt.U, Pt.locs, Pt.cells, Pt.slots] at X' e1 e2 h1 h2 h3 st hcl
    subst h1; subst h2; subst h3
    exact Or.inr ⟨q, (T.setVm vm₁).calling g' mk As.toArray, t, U', L, E, ce, hT, X', hL, e1, e2, hq, hce, hcv, vx_cls hW₁ hcl, st⟩
end
end VXH
theorem vx_ofWH {l : Launch} {y : MethodName} {ws ws' : List Cond} {rm : Room} {Pc : Array Value → State → Prop} {Qc : Array Value → State → Outcome → State → Prop} {XC : String → State → State → Prop} {mc ms : Nat} {free : Addr → Prop} {cc : ByteArray} {maxL : Nat} {ret : Option FieldType} {hh : List (Nat × Nat × Nat × Nat)}
    (hy : plainName y.cls = true) (hw : ws = Cond.codeWith y cc maxL ret hh :: ws')
    (body : ∀ p e s m args below meth c s₁, BodyLoose p l y (headSpec ws rm) cc maxL ret e s m args below meth c s₁ → c.maxLocals = maxL → Pc args s →
      W p l e (headSpec ws rm).room s m args below meth c s.heap [] 0 0 (vx_MQ below Qc XC args s mc ms free) (entryFrame m args maxL)) : vx_Met l y ws rm Pc Qc XC mc ms free := by
  refine MetFree.of_bodyS (code := cc) (maxLocals := maxL) (ret := ret) hy ?_ ?_
  · intro args s m h hn
    obtain ⟨m9, meth, c, hn9, h1, h2, h3, h4, -, h5, h6, -⟩ := Cond.codeWith_spec (atoms_spec (ws := ws) h _ (by rw [hw]; exact List.mem_cons_self))
    cases hn.symm.trans hn9
    exact ⟨meth, c, h1, h2, h3, h4, h5, h6⟩
  · intro p e s m args below meth c s₁ B hml hP _
    have hh0 : s₁.heap = s.heap := by rw [B.state]; rfl
    obtain ⟨t, a1, o, b1, b2, b3⟩ := body p e s m args below meth c s₁ B hml hP s₁ hh0 (Stand.of_body B)
    exact ⟨t, o, a1, b1, b2, b3⟩
/-! ===== END ===== -/
end
section
/-! our own words for numbers and states -/
def nn (x : Int32) : Nat := x.toNatClampNeg
def okN (x : Int32) (B : Nat) : Prop := ∃ k : Nat, k < B ∧ k < 2 ^ 31 ∧ x = nI k
theorem okN.eq {x : Int32} {B : Nat} (h : okN x B) : x = nI (nn x) := by
  obtain ⟨k, h1, h2, rfl⟩ := h
  unfold nn
  rw [nI_clamp h2]
theorem okN.lt {x : Int32} {B : Nat} (h : okN x B) : nn x < B := by
  obtain ⟨k, h1, h2, rfl⟩ := h
  unfold nn
  rw [nI_clamp h2]
  exact h1
theorem okN.of {k B : Nat} (h : k < B) (h2 : k < 2 ^ 31) : okN (nI k) B := ⟨k, h, h2, rfl⟩
theorem nn_nI {k : Nat} (h : k < 2 ^ 31) : nn (nI k) = k := nI_clamp h
def okG (p0 q0 g0 h0 : Nat) : Prop := 2 ≤ p0 ∧ p0 < 2 ^ 31 ∧ 2 ≤ q0 ∧ q0 < 2 ^ 31 ∧ g0 < p0 ∧ h0 < p0
def isPt (n i : Int32) : Prop := ¬ i < 1 ∧ ¬ n < i
def isCf (t k : Int32) : Prop := ¬ k < 0 ∧ ¬ t ≤ k
def bnum (b x : Int32) (q : Nat) : Int32 := if b = 0 then 0 else nI (md x q)
/-- how many of the first n flags are up -/
def mz_ct (f : Nat → Int32) : Nat → Nat
  | 0 => 0
  | n + 1 => mz_ct f n + (if f n = 0 then 0 else 1)
theorem mz_ct_0 {f : Nat → Int32} {n : Nat} (h : f n = 0) : mz_ct f (n + 1) = mz_ct f n := by
  rw [mz_ct, if_pos h, Nat.add_zero]
theorem mz_ct_1 {f : Nat → Int32} {n : Nat} (h : ¬ f n = 0) : mz_ct f (n + 1) = mz_ct f n + 1 := by
  rw [mz_ct, if_neg h]
/-- 2 <= x < p, and x^q is 1 modulo p -/
def mz_el (x : Int32) (p0 q0 : Nat) : Prop := ¬ x < 2 ∧ x.toNatClampNeg < p0 ∧ x.toNatClampNeg ^ q0 % p0 = 1
/-- the numbers of a sound group -/
def mz_so (p q g h : Int32) : Prop := mz_P p.toNatClampNeg ∧ mz_P q.toNatClampNeg ∧ (p.toNatClampNeg - 1) % q.toNatClampNeg = 0 ∧ ¬ g = h ∧ mz_el g p.toNatClampNeg q.toNatClampNeg ∧ mz_el h p.toNatClampNeg q.toNatClampNeg
end
section
/-! OUR OWN ROWS: the top of the stack under another name; contracts of methods that only read (the heap stays the same heap) -/
section RX
variable {p : Program} {l : Launch} {e : Env} {R : Room} {s : State} {m : MethodId} {args : Array Value} {below : List Frame} {meth : Method} {c : Code} {H : Heap} {locs : List Loc} {cells slots : Nat} {Q : State → Prop}
variable {cc : ByteArray} {pc : Nat} {ls : Array Slot} {rest : List Value}
theorem x_i {x y : Int32} (h : x = y) (k : W p l e R s m args below meth c H locs cells slots Q (F0 m pc ls (.int y :: rest))) : W p l e R s m args below meth c H locs cells slots Q (F0 m pc ls (.int x :: rest)) := by
  rw [h]
  exact k
theorem x_l {x y : Int64} (h : x = y) (k : W p l e R s m args below meth c H locs cells slots Q (F0 m pc ls (.long y :: rest))) : W p l e R s m args below meth c H locs cells slots Q (F0 m pc ls (.long x :: rest)) := by
  rw [h]
  exact k
theorem x_v {x y : Value} (h : x = y) (k : W p l e R s m args below meth c H locs cells slots Q (F0 m pc ls (y :: rest))) : W p l e R s m args below meth c H locs cells slots Q (F0 m pc ls (x :: rest)) := by
  rw [h]
  exact k
/-- a method that only reads, and answers r -/
abbrev Ro (l : Launch) (y : MethodName) (ws : List Cond) (fr lo : Nat) (av : List Value) (B : State → Prop) (r : Int32) : Prop :=
  Met l y ws { frames := fr, cells := 0, slots := 0, locals := lo } (va_Pc av B) (QcRead r) 0 0 (fun _ => False)
theorem ro_i {v r : Int32} (hx : p.tables.exec = Jvm.exec) (hb : c.code = cc) (hr : meth.sig.returnType = some .int) (hk : meth.locks = false) (hdg : decode cc pc = .ok (.ireturn, 1)) (ev : v = r) :
    W p l e R s m args below meth c s.heap [] cells slots (MQ below (QcRead r) args s cells slots (fun _ => False)) (F0 m pc ls [.int v]) := by
  subst ev
  exact W.iret hx hb hr (fun t ht _ => ⟨rfl, ht⟩) (fun q hq => by cases hq) hdg hk
theorem ro_z {v r : Int32} (hx : p.tables.exec = Jvm.exec) (hb : c.code = cc) (hr : meth.sig.returnType = some .boolean) (hk : meth.locks = false) (hdg : decode cc pc = .ok (.ireturn, 1)) (hn : narrow .boolean (.int v) = .int v) (ev : v = r) :
    W p l e R s m args below meth c s.heap [] cells slots (MQ below (QcRead r) args s cells slots (fun _ => False)) (F0 m pc ls [.int v]) := by
  subst ev
  exact W.zret hx hb hr hn (fun t ht _ => ⟨rfl, ht⟩) (fun q hq => by cases hq) hdg hk
section RXC
variable {Ts ws : List Cond} {own C : String} {nL n index maxL fr lo : Nat} {y : MethodName} {bytes : ByteArray} {ret : Option FieldType} {B : State → Prop} {r : Int32} {As st : List Value} {b : Addr}
/-- a static method that only reads is called -/
theorem ro_S (S : CallFix p m c cc nL s args Ts own) (hM : Ro l y ws fr lo As B r) (cw : CallB R s args own index y bytes maxL ret ws { frames := fr, cells := 0, slots := 0, locals := lo } 0 0 n ∧ (Cond.static y).before args s = true)
    (hbl : ∀ (U : State) (g : JFrame) (mk : MethodId) (a : Array Value), B U → B (U.calling g mk a)) (hB : ∀ U : State, U.heap = H → s.WarmedH U.vm → B U)
    (hn : As.length = n) (hsz : ls.size = nL) (hst : st = As.reverse ++ rest) (hW : 2 * (F0 m pc ls st).monitorRoom + (rest.map fun v => v.category).sum ≤ 8) (hdg : decode cc pc = .ok (.invokestatic index, 3)) (hf : cells ≤ R.cells ∧ slots ≤ R.slots)
    (kk : W p l e R s m args below meth c H locs cells slots Q (F0 m (pc + 3) ls (.int r :: rest))) : W p l e R s m args below meth c H locs cells slots Q (F0 m pc ls st) :=
  W.callR (a := As.toArray) (W.runS (As := As) (rest := rest) S hM cw ⟨fun a U g mk q => ⟨q.1, hbl U g mk a q.2⟩, fun U hU hW => ⟨rfl, hB U hU hW⟩⟩ rfl hn hsz hst hW hdg hf) kk
/-- a method of an object that only reads is called -/
theorem ro_V (S : CallFix p m c cc nL s args Ts own) (hM : Ro l y ws fr lo (.ref b :: As) B r) (cw : CallW R s args own C index y bytes maxL ret ws { frames := fr, cells := 0, slots := 0, locals := lo } 0 0 n)
    (hbl : ∀ (U : State) (g : JFrame) (mk : MethodId) (a : Array Value), B U → B (U.calling g mk a)) (hrec : ∃ cellB : Cell, H[b]? = some cellB ∧ cellB.vm.isStatics = false ∧ s.vm.findClass C = some cellB.cls) (hB : ∀ U : State, U.heap = H → s.WarmedH U.vm → B U)
    (hn : As.length = n) (hsz : ls.size = nL) (hst : st = As.reverse ++ .ref b :: rest) (hW : 2 * (F0 m pc ls st).monitorRoom + (rest.map fun v => v.category).sum ≤ 8) (hdg : decode cc pc = .ok (.invokevirtual index, 3)) (hf : cells ≤ R.cells ∧ slots ≤ R.slots)
    (kk : W p l e R s m args below meth c H locs cells slots Q (F0 m (pc + 3) ls (.int r :: rest))) : W p l e R s m args below meth c H locs cells slots Q (F0 m pc ls st) :=
  W.callR (a := (Value.ref b :: As).toArray) (W.runV (As := As) (rest := rest) (b := b) S hM cw ⟨fun a U g mk q => ⟨q.1, hbl U g mk a q.2⟩, hrec, fun U hU hW => ⟨rfl, hB U hU hW⟩⟩ rfl hn hsz hst hW hdg hf) kk
end RXC
end RX
/-- a truth as a Java boolean -/
noncomputable def mz_b (P : Prop) : Int32 := @ite _ P (Classical.propDecidable P) 1 0
theorem mz_bt {P : Prop} (h : P) : mz_b P = 1 := if_pos h
theorem mz_bf {P : Prop} (h : ¬ P) : mz_b P = 0 := if_neg h
theorem mz_b0 {P : Prop} : mz_b P = 0 ↔ ¬ P := by
  by_cases h : P
  · rw [mz_bt h]; exact ⟨fun q => absurd q (by decide), fun q => absurd h q⟩
  · rw [mz_bf h]; exact ⟨fun _ => h, fun _ => rfl⟩
theorem mz_b01 (P : Prop) : mz_b P = 0 ∨ mz_b P = 1 := by
  by_cases h : P
  · exact Or.inr (mz_bt h)
  · exact Or.inl (mz_bf h)
theorem mz_bc {P P' : Prop} (h : P ↔ P') : mz_b P = mz_b P' := by
  by_cases q : P
  · rw [mz_bt q, mz_bt (h.mp q)]
  · rw [mz_bf q, mz_bf (fun z => q (h.mpr z))]
theorem mz_bn (P : Prop) : narrow .boolean (.int (mz_b P)) = .int (mz_b P) := by
  rcases mz_b01 P with h | h <;> rw [h] <;> rfl
/-- numbers -/
theorem nz_m31 {a b : Nat} (ha : a < 2 ^ 31) (hb : b < 2 ^ 31) : a * b < 2 ^ 62 := Nat.lt_of_lt_of_le (Nat.mul_lt_mul'' ha hb) (by decide)
theorem nz_lne {a : Nat} (h0 : 0 < a) (h : a < 2 ^ 31) : ¬ lN a = 0 := fun q => by
  have h1 : a = 0 := (pk_lEQ (a := a) (b := 0) (by omega) (by omega)).mp q
  omega
theorem nz_ine {a : Nat} (h0 : 0 < a) (h : a < 2 ^ 31) : ¬ nI a = 0 := nI_ne0 h0 h
/-- x % m over longs -/
theorem nz_lrem {a m : Nat} (ha : a < 2 ^ 62) (h0 : 0 < m) (hm : m < 2 ^ 31) : lN a - lN a / lN m * lN m = lN (a % m) := pk_lRem (by omega) h0 (by omega)
theorem nz_2 : (2 : Int32) = nI 2 := rfl
theorem nz_1 : (1 : Int32) = nI 1 := rfl
/-- what is not below 2 is a number from 2 on -/
theorem nz_ge2 {x : Int32} (h : ¬ x < 2) : ∃ j : Nat, 2 ≤ j ∧ j < 2 ^ 31 ∧ x = nI j := by
  have h2 : (2 : Int32).toInt = 2 := by decide
  have h1 : (0 : Int32).toInt = 0 := by decide
  have h0 : ¬ x < 0 := fun q => h (by rw [Int32.lt_iff_toInt_lt] at q ⊢; omega)
  obtain ⟨j, hj, rfl⟩ := nI_of h0
  refine ⟨j, ?_, hj, rfl⟩
  rcases Nat.lt_or_ge j 2 with q | q
  · exact absurd (by rw [nz_2]; exact nI_lt q (by decide)) h
  · exact q
theorem nz_lt2 {x : Int32} (h : x < 2) : x.toNatClampNeg < 2 := by
  rcases Nat.lt_or_ge x.toNatClampNeg 2 with q | q
  · exact q
  · exfalso
    have h1 : (x.toNatClampNeg : Int) = x.toInt.toNat := rfl
    rw [Int32.lt_iff_toInt_lt] at h
    have h2 : (2 : Int32).toInt = 2 := by decide
    have h3 : x.toNatClampNeg = x.toInt.toNat := rfl
    omega
end
section
/-! OUR OWN ROWS: methods that write within a world and make nothing; places in a world with a stretch of like cells -/
def w_A (w : va_W) : Nat → Prop := fun q => ∃ (k : Nat) (e : va_E), w[k]? = some (q, e)
theorem w_A.of {A : Nat → Prop} {w : va_W} (h : va_D A w) {q : Nat} (hq : w_A w q) : A q := by
  obtain ⟨k, e, h1⟩ := hq
  exact h.2 k (q, e) h1
theorem w_self {A : Nat → Prop} {w : va_W} (h : va_D A w) : va_D (w_A w) w := ⟨h.1, fun k q hk => ⟨k, q.2, hk⟩⟩
/-- a world with the same addresses -/
theorem w_addr {A : Nat → Prop} {w w1 : va_W} (h : va_D A w) (e : w1.map Prod.fst = w.map Prod.fst) : va_D A w1 := by
  have key : ∀ (k : Nat) (q : Nat × va_E), w1[k]? = some q → ∃ q0, w[k]? = some q0 ∧ q0.1 = q.1 := by
    intro k q hk
    have h1 : (w1.map Prod.fst)[k]? = some q.1 := by rw [List.getElem?_map, hk]; rfl
    rw [e, List.getElem?_map] at h1
    cases h2 : w[k]? with
    | none => rw [h2] at h1; cases h1
    | some q0 => rw [h2] at h1; exact ⟨q0, rfl, Option.some.inj h1⟩
  refine ⟨fun i j x y hx hy hxy => ?_, fun k q hk => ?_⟩
  · obtain ⟨x0, a1, a2⟩ := key i x hx
    obtain ⟨y0, b1, b2⟩ := key j y hy
    exact h.1 i j x0 y0 a1 b1 (by rw [a2, b2]; exact hxy)
  · obtain ⟨q0, a1, a2⟩ := key k q hk
    rw [← a2]
    exact h.2 k q0 a1
/-- the rest of a world stays -/
theorem w_keep {D : va_G} {cl : List vw_C} {A : Nat → Prop} {w1 w2 : va_W} {H H1 : Heap} (hP : va_P D cl w2 H) (hD : va_D A (w1 ++ w2)) (hk : ∀ q : Nat, q < H.size → ¬ w_A w1 q → H1[q]? = H[q]?) : va_P D cl w2 H1 := by
  refine hP.kept fun k q hq => hk q.1 (hP k q hq).lt fun h => ?_
  obtain ⟨j, e, hj⟩ := h
  have h1 : (w1 ++ w2)[w1.length + k]? = some q := by rw [List.getElem?_append_right (by omega), Nat.add_sub_cancel_left]; exact hq
  have h2 : (w1 ++ w2)[j]? = some (q.1, e) := by rw [List.getElem?_append_left (List.getElem?_eq_some_iff.mp hj).1]; exact hj
  have h3 := hD.1 _ _ _ _ h1 h2 rfl
  have h4 := (List.getElem?_eq_some_iff.mp hj).1
  omega
theorem w_get {X : va_W} {f : Nat → Nat × va_E} {n j : Nat} (hj : j < n) : (X ++ (List.range n).map f)[X.length + j]? = some (f j) := by
  rw [List.getElem?_append_right (by omega), Nat.add_sub_cancel_left, List.getElem?_map, List.getElem?_range hj]
  rfl
theorem w_set {X : va_W} {f f' : Nat → Nat × va_E} {n j : Nat} (hj : j < n) (h : ∀ i, i < n → i ≠ j → f' i = f i) : (X ++ (List.range n).map f).set (X.length + j) (f' j) = X ++ (List.range n).map f' := by
  apply List.ext_getElem?
  intro k
  by_cases hk : k = X.length + j
  · subst hk
    rw [List.getElem?_set_self (by simp; omega), w_get hj]
  · rw [List.getElem?_set_ne (fun q => hk q.symm)]
    rcases Nat.lt_or_ge k X.length with q | q
    · rw [List.getElem?_append_left q, List.getElem?_append_left q]
    · rw [List.getElem?_append_right q, List.getElem?_append_right q, List.getElem?_map, List.getElem?_map]
      rcases Nat.lt_or_ge (k - X.length) n with z | z
      · rw [List.getElem?_range z]
        show some _ = some _
        rw [h _ z (by omega)]
      · rw [List.getElem?_eq_none (by simpa using z)]
        rfl
/-- a method that writes within the world w0, makes it w1, and answers v -/
abbrev Wr (l : Launch) (y : MethodName) (ws : List Cond) (fr lo : Nat) (av : List Value) (D : va_G) (cl : List vw_C) (tys : List (ClassId × FieldType)) (w0 w1 : va_W) (v : Option Value) : Prop :=
  Met l y ws { frames := fr, cells := 0, slots := 0, locals := lo } (va_Pc av (fun U => va_P D cl w0 U.heap ∧ va_K D cl tys U ∧ va_D (fun _ => True) w0)) (fun _ st o t => o = .returned v ∧ va_P D cl w1 t.heap ∧ va_F (w_A w0) st t) 0 0 (w_A w0)
section WX
variable {p : Program} {l : Launch} {e : Env} {R : Room} {s : State} {m : MethodId} {args : Array Value} {below : List Frame} {meth : Method} {c : Code} {H H0 : Heap} {locs : List Loc} {cells slots : Nat} {Q : State → Prop}
variable {cc : ByteArray} {pc : Nat} {ls : Array Slot} {rest : List Value} {D : va_G} {cl : List vw_C} {tys : List (ClassId × FieldType)} {w0 w1 : va_W} {A : Nat → Prop}
theorem wr_v (hx : p.tables.exec = Jvm.exec) (hb : c.code = cc) (hr : meth.sig.returnType = none) (hk : meth.locks = false) (hP : va_P D cl w1 H) (hS : va_S (w_A w0) s.heap H locs) (hdg : decode cc pc = .ok (.return_, 1)) :
    W p l e R s m args below meth c H locs cells slots (MQ below (fun _ st o t => o = .returned none ∧ va_P D cl w1 t.heap ∧ va_F (w_A w0) st t) args s cells slots (w_A w0)) (F0 m pc ls []) :=
  W.vret hx hb hr (fun t ht _ => ⟨rfl, by rw [ht]; exact hP, hS.F ht⟩) hS.2.2 hdg hk
theorem wr_i {v : Int32} (hx : p.tables.exec = Jvm.exec) (hb : c.code = cc) (hr : meth.sig.returnType = some .int) (hk : meth.locks = false) (hP : va_P D cl w1 H) (hS : va_S (w_A w0) s.heap H locs) (hdg : decode cc pc = .ok (.ireturn, 1)) :
    W p l e R s m args below meth c H locs cells slots (MQ below (fun _ st o t => o = .returned (some (.int v)) ∧ va_P D cl w1 t.heap ∧ va_F (w_A w0) st t) args s cells slots (w_A w0)) (F0 m pc ls [.int v]) :=
  W.iret hx hb hr (fun t ht _ => ⟨rfl, by rw [ht]; exact hP, hS.F ht⟩) hS.2.2 hdg hk
theorem wr_z {v : Int32} (hx : p.tables.exec = Jvm.exec) (hb : c.code = cc) (hr : meth.sig.returnType = some .boolean) (hk : meth.locks = false) (hn : narrow .boolean (.int v) = .int v) (hP : va_P D cl w1 H) (hS : va_S (w_A w0) s.heap H locs) (hdg : decode cc pc = .ok (.ireturn, 1)) :
    W p l e R s m args below meth c H locs cells slots (MQ below (fun _ st o t => o = .returned (some (.int v)) ∧ va_P D cl w1 t.heap ∧ va_F (w_A w0) st t) args s cells slots (w_A w0)) (F0 m pc ls [.int v]) :=
  W.zret hx hb hr hn (fun t ht _ => ⟨rfl, by rw [ht]; exact hP, hS.F ht⟩) hS.2.2 hdg hk
section WXC
variable {Ts ws : List Cond} {own C : String} {nL n index maxL fr lo : Nat} {y : MethodName} {bytes : ByteArray} {ret : Option FieldType} {As st : List Value} {b : Addr} {v : Option Value}
/-- behind the call of a method that writes within w0 -/
theorem wr_go {a : Array Value} (hr : CallRun p l e R s m args below meth c H locs cells slots 0 0 (F0 m pc ls st) rest ((fun _ st o t => o = .returned v ∧ va_P D cl w1 t.heap ∧ va_F (w_A w0) st t) a) (w_A w0)) (hD : va_D A w0) (hS : va_S A H0 H locs)
    (kk : ∀ (H1 : Heap) (locs1 : List Loc), va_P D cl w1 H1 → (∀ q : Nat, q < H.size → ¬ w_A w0 q → H1[q]? = H[q]?) → H.size ≤ H1.size → va_S A H0 H1 locs1 → W p l e R s m args below meth c H1 locs1 cells slots Q (F0 m (pc + 3) ls (v.toList ++ rest))) : W p l e R s m args below meth c H locs cells slots Q (F0 m pc ls st) := by
  intro T hT X
  obtain ⟨v', st₀, t, T', L, h0, X', hL, e1, ⟨hv, hP1, hz, hk⟩, st⟩ := hr T hT X
  cases hv
  rw [h0] at hz hk
  obtain ⟨t2, a1, b1⟩ := kk T'.heap (locs ++ L) (by rw [e1]; exact hP1) (fun q h1 h2 => by rw [e1]; exact hk q h1 h2) (by rw [e1]; exact hz)
    ⟨Nat.le_trans hS.1 (by rw [e1]; exact hz), fun q h1 h2 => by rw [e1, hk q (Nat.lt_of_lt_of_le h1 hS.1) (fun z => h2 (w_A.of hD z))]; exact hS.2.1 q h1 h2, fun q hq => by
      rcases List.mem_append.mp hq with h | h
      · exact hS.2.2 q h
      · exact w_A.of hD (hL q h)⟩ T' rfl X'
  exact ⟨t2, st t2 a1, b1⟩
theorem wr_bl {av : List Value} : FrameBlind (va_Pc av (fun U => va_P D cl w0 U.heap ∧ va_K D cl tys U ∧ va_D (fun _ => True) w0)) :=
  fun a U g mk q => ⟨q.1, q.2.1, va_K.moved (u := U) (U := U.calling g mk a) (Vm.Alike.refl U.vm) q.2.2.1, q.2.2.2⟩
theorem wr_V (S : CallFix p m c cc nL s args Ts own) (hM : Wr l y ws fr lo (.ref b :: As) D cl tys w0 w1 v) (cw : CallW R s args own C index y bytes maxL ret ws { frames := fr, cells := 0, slots := 0, locals := lo } 0 0 n)
    (hrec : ∃ cellB : Cell, H[b]? = some cellB ∧ cellB.vm.isStatics = false ∧ s.vm.findClass C = some cellB.cls) (hP : va_P D cl w0 H) (hK : va_K D cl tys s) (hD : va_D A w0) (hS : va_S A H0 H locs)
    (hn : As.length = n) (hsz : ls.size = nL) (hst : st = As.reverse ++ .ref b :: rest) (hW : 2 * (F0 m pc ls st).monitorRoom + (rest.map fun v => v.category).sum ≤ 8) (hdg : decode cc pc = .ok (.invokevirtual index, 3)) (hf : cells ≤ R.cells ∧ slots ≤ R.slots)
    (kk : ∀ (H1 : Heap) (locs1 : List Loc), va_P D cl w1 H1 → (∀ q : Nat, q < H.size → ¬ w_A w0 q → H1[q]? = H[q]?) → H.size ≤ H1.size → va_S A H0 H1 locs1 → W p l e R s m args below meth c H1 locs1 cells slots Q (F0 m (pc + 3) ls (v.toList ++ rest))) : W p l e R s m args below meth c H locs cells slots Q (F0 m pc ls st) :=
  wr_go (a := (Value.ref b :: As).toArray) (W.runV (As := As) (rest := rest) (b := b) S hM cw ⟨wr_bl, hrec, fun U hU hW => ⟨rfl, by rw [hU]; exact hP, va_K.moved hW.alike hK, hD.weaken (fun _ _ _ _ => trivial)⟩⟩ rfl hn hsz hst hW hdg hf) hD hS kk
end WXC
end WX
/-- one number of a state -/
def up (S : Nat → Nat → Int32) (f k : Nat) (v : Int32) : Nat → Nat → Int32 := fun f' k' => if f' = f then (if k' = k then v else S f' k') else S f' k'
theorem up_row (S : Nat → Nat → Int32) (f k : Nat) (v : Int32) : (up S f k v) f = upd (S f) k v := by
  funext j
  by_cases h : j = k
  · simp [up, upd, h]
  · simp [up, upd, h]
theorem up_ne (S : Nat → Nat → Int32) {f f' : Nat} (k : Nat) (v : Int32) (h : f' ≠ f) : (up S f k v) f' = S f' := by
  funext j
  simp [up, h]
theorem up_at (S : Nat → Nat → Int32) (f k : Nat) (v : Int32) : up S f k v f k = v := by simp [up]
theorem up_nk (S : Nat → Nat → Int32) (f : Nat) {k k' : Nat} (v : Int32) (h : k' ≠ k) : up S f k v f k' = S f k' := by simp [up, h]
end
section
set_option maxRecDepth 100000 in
set_option maxHeartbeats 4000000 in
/-- powerModulo(b, e, m) = b^e modulo m -/
theorem c_G_powerModulo (l : Launch) (b0 e0 m0 : Nat) (hb0 : b0 < 2 ^ 31) (he0 : e0 < 2 ^ 31) (h2 : 2 ≤ m0) (hm0 : m0 < 2 ^ 31) : Ro l y_G_powerModulo ws_G_powerModulo 0 0 [.int (nI b0), .int (nI e0), .int (nI m0)] (fun _ => True) (nI (b0 ^ e0 % m0)) := by
  refine Met.ofW (cc := b_G_powerModulo) (maxL := 8) (ret := (some .int)) (by decide) rfl ?_
  intro p e s m args below meth c s₁ B hml hv
  obtain ⟨rfl, -⟩ := hv
  have hx := B.exec
  have hb := B.bytes
  have hr := B.returns
  have hts : ∀ w ∈ AL, w.before ([.int (nI b0), .int (nI e0), .int (nI m0)] : List Value).toArray s = true := fun w h => atoms_spec (ws := ws_G_powerModulo) B.pre w (List.mem_cons_of_mem _ h)
  have hown : s.vm.findClass "DealtSecret$Group" = some m.cls := findClass_of_methodNamed B.named
  have hlk := B.notSynchronized
  have hl := lv_entry ([.int (nI b0), .int (nI e0), .int (nI m0)]) (n := 8) (Nat.le_of_ble_eq_true rfl)
  rw [lg_entry_eq]
  generalize (lg_sl ([.int (nI b0), .int (nI e0), .int (nI m0)]) ++ List.replicate (8 - (lg_sl ([.int (nI b0), .int (nI e0), .int (nI m0)])).length) Slot.unset).toArray = ls at hl ⊢
  have hl : lv_has ls 8 [(0, .int (nI b0)), (1, .int (nI e0)), (2, .int (nI m0))] := hl
  have loop : ∀ (n r0 s0 k0 : Nat) (ls : Array Slot), k0 < n → k0 < 2 ^ 31 → r0 < m0 → s0 < 2 ^ 31 → r0 * s0 ^ k0 % m0 = b0 ^ e0 % m0 → lv_has ls 8 [(0, .int (nI b0)), (1, .int (nI e0)), (2, .int (nI m0)), (3, .long (lN r0)), (5, .long (lN s0)), (7, .int (nI k0))] → W p l e (headSpec ws_G_powerModulo { frames := 0, cells := 0, slots := 0, locals := 0 }).room s m [.int (nI b0), .int (nI e0), .int (nI m0)].toArray below meth c s.heap [] 0 0 (MQ below (QcRead (nI (b0 ^ e0 % m0))) [.int (nI b0), .int (nI e0), .int (nI m0)].toArray s 0 0 (fun _ => False)) (F0 m 9 ls []) := by
    intro n
    induction n with
    | zero =>
      intro r0 s0 k0 ls h1
      exact absurd h1 (Nat.not_lt_zero _)
    | succ n ih =>
      intro r0 s0 k0 ls hk hk2 hr0 hs0 hI hl
      have hss := nz_m31 hs0 hs0
      have hrs := nz_m31 (Nat.lt_trans hr0 hm0) hs0
      have hst := mz_step m0 r0 s0 k0
      refine lv_iload hx hb d_G_powerModulo_9 (lv_at hl 5 rfl) ?_
      refine lv_if_le (tgt := 49) hx hb d_G_powerModulo_11 (by decide) (fun c11 => ?_) (fun c11 => ?_)
      · have hk0 : k0 = 0 := by
          rcases Nat.eq_zero_or_pos k0 with q | q
          · exact q
          · exact absurd c11 (nI_nle q hk2)
        subst hk0
        refine lv_lload_n hx hb d_G_powerModulo_49 rfl (lv_at hl 3 rfl) ?_
        refine lv_l2i (v := (nI r0)) hx hb d_G_powerModulo_50 (lN_i r0) ?_
        exact ro_i hx hb hr hlk d_G_powerModulo_51 (by rw [← hI, Nat.pow_zero, Nat.mul_one, Nat.mod_eq_of_lt hr0])
      · have hkp : 0 < k0 := by
          rcases Nat.eq_zero_or_pos k0 with q | q
          · exact absurd (by rw [q]; decide) c11
          · exact q
        refine lv_iload hx hb d_G_powerModulo_14 (lv_at hl 5 rfl) ?_
        refine lv_iconst (v := 1) hx hb d_G_powerModulo_16 (by decide) ?_
        refine lv_iand hx hb d_G_powerModulo_17 ?_
        refine x_i (y := nI (k0 % 2)) (pk_andN (by omega) 1 (by decide)) ?_
        refine lv_iconst (v := (nI 1)) hx hb d_G_powerModulo_18 (by decide) ?_
        refine lv_icmp_ne (tgt := 30) hx hb d_G_powerModulo_19 (by decide) (fun c19 => ?_) (fun c19 => ?_)
        · have hke : ¬ k0 % 2 = 1 := fun q => c19 (by rw [q])
          rw [if_neg hke] at hst
          refine lv_lload hx hb d_G_powerModulo_30 (lv_at hl 4 rfl) ?_
          refine lv_lload hx hb d_G_powerModulo_32 (lv_at hl 4 rfl) ?_
          refine lv_lmul hx hb d_G_powerModulo_34 ?_
          refine x_l (y := lN (s0 * s0)) (lN_mul _ _) ?_
          refine lv_iload_n hx hb d_G_powerModulo_35 rfl (lv_at hl 2 rfl) ?_
          refine lv_i2l (v := (lN m0)) hx hb d_G_powerModulo_36 (nI_l hm0) ?_
          refine lv_lrem hx hb d_G_powerModulo_37 (nz_lne (by omega) hm0) ?_
          refine x_l (y := lN (s0 * s0 % m0)) (nz_lrem (by omega) (by omega) hm0) ?_
          refine lv_lstore (lv' := [(5, .long (lN (s0 * s0 % m0))), (0, .int (nI b0)), (1, .int (nI e0)), (2, .int (nI m0)), (3, .long (lN r0)), (7, .int (nI k0))]) hx hb d_G_powerModulo_38 hl (by decide) rfl (fun ls hl => ?_)
          refine lv_iload hx hb d_G_powerModulo_40 (lv_at hl 5 rfl) ?_
          refine lv_iconst (v := 1) hx hb d_G_powerModulo_42 (by decide) ?_
          refine lv_ishr hx hb d_G_powerModulo_43 ?_
          refine x_i (y := nI (k0 / 2)) (pk_shrN hk2 _ 1 (by decide)) ?_
          refine lv_istore (lv' := [(7, .int (nI (k0 / 2))), (5, .long (lN (s0 * s0 % m0))), (0, .int (nI b0)), (1, .int (nI e0)), (2, .int (nI m0)), (3, .long (lN r0))]) hx hb d_G_powerModulo_44 hl (by decide) rfl (fun ls hl => ?_)
          refine lv_goto (tgt := 9) hx hb d_G_powerModulo_46 (by decide) ?_
          exact ih r0 (s0 * s0 % m0) (k0 / 2) ls (by omega) (by omega) (by first | exact hr0 | exact Nat.mod_lt _ (by omega)) (Nat.lt_trans (Nat.mod_lt _ (by omega)) hm0) (hst.trans hI) (lv_sub hl [2, 3, 4, 5, 1, 0] rfl)
        · have hko : k0 % 2 = 1 := (nI_eq (by omega) (by omega)).mp c19
          rw [if_pos hko] at hst
          refine lv_lload_n hx hb d_G_powerModulo_22 rfl (lv_at hl 3 rfl) ?_
          refine lv_lload hx hb d_G_powerModulo_23 (lv_at hl 4 rfl) ?_
          refine lv_lmul hx hb d_G_powerModulo_25 ?_
          refine x_l (y := lN (r0 * s0)) (lN_mul _ _) ?_
          refine lv_iload_n hx hb d_G_powerModulo_26 rfl (lv_at hl 2 rfl) ?_
          refine lv_i2l (v := (lN m0)) hx hb d_G_powerModulo_27 (nI_l hm0) ?_
          refine lv_lrem hx hb d_G_powerModulo_28 (nz_lne (by omega) hm0) ?_
          refine x_l (y := lN (r0 * s0 % m0)) (nz_lrem (by omega) (by omega) hm0) ?_
          refine lv_lstore_n (lv' := [(3, .long (lN (r0 * s0 % m0))), (0, .int (nI b0)), (1, .int (nI e0)), (2, .int (nI m0)), (5, .long (lN s0)), (7, .int (nI k0))]) hx hb d_G_powerModulo_29 rfl hl (by decide) rfl (fun ls hl => ?_)
          refine lv_lload hx hb d_G_powerModulo_30 (lv_at hl 4 rfl) ?_
          refine lv_lload hx hb d_G_powerModulo_32 (lv_at hl 4 rfl) ?_
          refine lv_lmul hx hb d_G_powerModulo_34 ?_
          refine x_l (y := lN (s0 * s0)) (lN_mul _ _) ?_
          refine lv_iload_n hx hb d_G_powerModulo_35 rfl (lv_at hl 3 rfl) ?_
          refine lv_i2l (v := (lN m0)) hx hb d_G_powerModulo_36 (nI_l hm0) ?_
          refine lv_lrem hx hb d_G_powerModulo_37 (nz_lne (by omega) hm0) ?_
          refine x_l (y := lN (s0 * s0 % m0)) (nz_lrem (by omega) (by omega) hm0) ?_
          refine lv_lstore (lv' := [(5, .long (lN (s0 * s0 % m0))), (3, .long (lN (r0 * s0 % m0))), (0, .int (nI b0)), (1, .int (nI e0)), (2, .int (nI m0)), (7, .int (nI k0))]) hx hb d_G_powerModulo_38 hl (by decide) rfl (fun ls hl => ?_)
          refine lv_iload hx hb d_G_powerModulo_40 (lv_at hl 5 rfl) ?_
          refine lv_iconst (v := 1) hx hb d_G_powerModulo_42 (by decide) ?_
          refine lv_ishr hx hb d_G_powerModulo_43 ?_
          refine x_i (y := nI (k0 / 2)) (pk_shrN hk2 _ 1 (by decide)) ?_
          refine lv_istore (lv' := [(7, .int (nI (k0 / 2))), (5, .long (lN (s0 * s0 % m0))), (3, .long (lN (r0 * s0 % m0))), (0, .int (nI b0)), (1, .int (nI e0)), (2, .int (nI m0))]) hx hb d_G_powerModulo_44 hl (by decide) rfl (fun ls hl => ?_)
          refine lv_goto (tgt := 9) hx hb d_G_powerModulo_46 (by decide) ?_
          exact ih (r0 * s0 % m0) (s0 * s0 % m0) (k0 / 2) ls (by omega) (by omega) (by first | exact hr0 | exact Nat.mod_lt _ (by omega)) (Nat.lt_trans (Nat.mod_lt _ (by omega)) hm0) (hst.trans hI) (lv_sub hl [3, 4, 5, 2, 1, 0] rfl)
  refine lv_lconst (v := (lN 1)) hx hb d_G_powerModulo_0 (by decide) ?_
  refine lv_lstore_n (lv' := [(3, .long (lN 1)), (0, .int (nI b0)), (1, .int (nI e0)), (2, .int (nI m0))]) hx hb d_G_powerModulo_1 rfl hl (by decide) rfl (fun ls hl => ?_)
  refine lv_iload_n hx hb d_G_powerModulo_2 rfl (lv_at hl 1 rfl) ?_
  refine lv_i2l (v := (lN b0)) hx hb d_G_powerModulo_3 (nI_l hb0) ?_
  refine lv_lstore (lv' := [(5, .long (lN b0)), (3, .long (lN 1)), (0, .int (nI b0)), (1, .int (nI e0)), (2, .int (nI m0))]) hx hb d_G_powerModulo_4 hl (by decide) rfl (fun ls hl => ?_)
  refine lv_iload_n hx hb d_G_powerModulo_6 rfl (lv_at hl 3 rfl) ?_
  refine lv_istore (lv' := [(7, .int (nI e0)), (5, .long (lN b0)), (3, .long (lN 1)), (0, .int (nI b0)), (1, .int (nI e0)), (2, .int (nI m0))]) hx hb d_G_powerModulo_7 hl (by decide) rfl (fun ls hl => ?_)
  exact loop (e0 + 1) 1 b0 e0 ls (by omega) he0 (by omega) hb0 (by rw [Nat.one_mul]) (lv_sub hl [3, 4, 5, 2, 1, 0] rfl)
set_option maxRecDepth 100000 in
set_option maxHeartbeats 4000000 in
/-- isPrime(x): is x a prime number -/
theorem c_G_isPrime (l : Launch) (x0 : Int32) : Ro l y_G_isPrime ws_G_isPrime 0 0 [.int x0] (fun _ => True) (mz_b (mz_P x0.toNatClampNeg)) := by
  refine Met.ofW (cc := b_G_isPrime) (maxL := 2) (ret := (some .boolean)) (by decide) rfl ?_
  intro p e s m args below meth c s₁ B hml hv
  obtain ⟨rfl, -⟩ := hv
  have hx := B.exec
  have hb := B.bytes
  have hr := B.returns
  have hts : ∀ w ∈ AL, w.before ([.int x0] : List Value).toArray s = true := fun w h => atoms_spec (ws := ws_G_isPrime) B.pre w (List.mem_cons_of_mem _ h)
  have hown : s.vm.findClass "DealtSecret$Group" = some m.cls := findClass_of_methodNamed B.named
  have hlk := B.notSynchronized
  have hl := lv_entry ([.int x0]) (n := 2) (Nat.le_of_ble_eq_true rfl)
  rw [lg_entry_eq]
  generalize (lg_sl ([.int x0]) ++ List.replicate (2 - (lg_sl ([.int x0])).length) Slot.unset).toArray = ls at hl ⊢
  have hl : lv_has ls 2 [(0, .int x0)] := hl
  by_cases hx2 : x0 < 2
  · refine lv_iload_n hx hb d_G_isPrime_0 rfl (lv_at hl 0 rfl) ?_
    refine lv_iconst (v := 2) hx hb d_G_isPrime_1 (by decide) ?_
    refine lv_icmp_lt (tgt := 11) hx hb d_G_isPrime_2 (by decide) (fun _ => ?_) (fun c_ => absurd (hx2) c_)
    refine lv_iload_n hx hb d_G_isPrime_11 rfl (lv_at hl 0 rfl) ?_
    refine lv_iconst (v := 2) hx hb d_G_isPrime_12 (by decide) ?_
    refine lv_icmp_ne (tgt := 20) hx hb d_G_isPrime_13 (by decide) (fun _ => ?_) (fun c_ => absurd c_ (show ¬ x0 = 2 from fun q => by rw [q] at hx2; exact absurd hx2 (by decide)))
    refine lv_iconst (v := 0) hx hb d_G_isPrime_20 (by decide) ?_
    exact ro_z hx hb hr hlk d_G_isPrime_21 (by first | rfl | exact mz_bn _) ((mz_bf fun q => absurd q.1 (Nat.not_le.mpr (nz_lt2 hx2))).symm)
  · obtain ⟨j, hj2, hj, rfl⟩ := nz_ge2 hx2
    rw [nI_clamp hj]
    have loop : j % 2 = 1 → ∀ (n d : Nat) (ls : Array Slot), j + 3 ≤ d + n → d ≤ j + 2 → d < 46343 → 3 ≤ d → d % 2 = 1 → (∀ f : Nat, 2 ≤ f → f < d → ¬ f ∣ j) → lv_has ls 2 [(0, .int (nI j)), (1, .int (nI d))] → W p l e (headSpec ws_G_isPrime { frames := 0, cells := 0, slots := 0, locals := 0 }).room s m [Value.int (nI j)].toArray below meth c s.heap [] 0 0 (MQ below (QcRead (mz_b (mz_P (j)))) [Value.int (nI j)].toArray s 0 0 (fun _ => False)) (F0 m 24 ls []) := by
      intro ho n
      induction n with
      | zero =>
        intro d ls h1 h2
        omega
      | succ n ih =>
        intro d ls h1 h2 h20 h3 h4 hI hl
        have hjd : j / d < 2 ^ 31 := Nat.lt_of_le_of_lt (Nat.div_le_self j d) hj
        have hd31 : d < 2 ^ 31 := by omega
        refine lv_iload_n hx hb d_G_isPrime_24 rfl (lv_at hl 1 rfl) ?_
        refine lv_iload_n hx hb d_G_isPrime_25 rfl (lv_at hl 0 rfl) ?_
        refine lv_iload_n hx hb d_G_isPrime_26 rfl (lv_at hl 1 rfl) ?_
        refine lv_idiv hx hb d_G_isPrime_27 (nz_ine (by omega) hd31) ?_
        refine x_i (y := nI (j / d)) (pk_div hj (by omega) hd31) ?_
        refine lv_icmp_gt (tgt := 45) hx hb d_G_isPrime_28 (by decide) (fun c28 => ?_) (fun c28 => ?_)
        · have hdd : j < d * d := by
            have h5 : j / d < d := (nI_ltI hjd hd31).mp c28
            exact (Nat.div_lt_iff_lt_mul (by omega)).mp h5
          refine lv_iconst (v := 1) hx hb d_G_isPrime_45 (by decide) ?_
          exact ro_z hx hb hr hlk d_G_isPrime_46 (by first | rfl | exact mz_bn _) ((mz_bt ⟨hj2, fun f hf1 hf2 hf3 => by
              rcases Nat.lt_or_ge f d with q | q
              · exact hI f hf1 q hf3
              · exact absurd (Nat.le_trans (Nat.mul_le_mul q q) hf2) (Nat.not_le.mpr hdd)⟩).symm)
        · have hdd : d * d ≤ j := by
            have h5 : ¬ j / d < d := fun q => c28 ((nI_ltI hjd hd31).mpr q)
            exact (Nat.le_div_iff_mul_le (by omega)).mp (Nat.not_lt.mp h5)
          have hd46 : d < 46341 := by
            rcases Nat.lt_or_ge d 46341 with q | q
            · exact q
            · exact absurd (Nat.le_trans (Nat.mul_le_mul q q) hdd) (by omega)
          have hdj : d ≤ j := Nat.le_trans (Nat.le_mul_of_pos_left d (by omega)) hdd
          refine lv_iload_n hx hb d_G_isPrime_31 rfl (lv_at hl 0 rfl) ?_
          refine lv_iload_n hx hb d_G_isPrime_32 rfl (lv_at hl 1 rfl) ?_
          refine lv_irem hx hb d_G_isPrime_33 (nz_ine (by omega) hd31) ?_
          refine x_i (y := nI (j % d)) (pk_rem hj (by omega) hd31) ?_
          refine lv_if_ne (tgt := 39) hx hb d_G_isPrime_34 (by decide) (fun c34 => ?_) (fun c34 => ?_)
          · have hnd : ¬ d ∣ j := fun q => c34 (by rw [Nat.mod_eq_zero_of_dvd q]; rfl)
            refine lv_iinc (v := (nI (d + 2))) (lv' := [(1, .int (nI (d + 2))), (0, .int (nI j))]) hx hb d_G_isPrime_39 hl (k := 1) rfl (nI_add d 2) (by decide) rfl (fun ls hl => ?_)
            refine lv_goto (tgt := 24) hx hb d_G_isPrime_42 (by decide) ?_
            exact ih (d + 2) ls (by omega) (by omega) (by omega) (by omega) (by omega) (fun f hf1 hf2 => by
              rcases (show f < d ∨ f = d ∨ f = d + 1 by omega) with q | q | q
              · exact hI f hf1 q
              · rw [q]; exact hnd
              · intro z
                have z2 : 2 ∣ j := Nat.dvd_trans ⟨(d + 1) / 2, by omega⟩ z
                omega) (lv_sub hl [1, 0] rfl)
          · have hdv : d ∣ j := Nat.dvd_of_mod_eq_zero (by
              rcases Nat.eq_zero_or_pos (j % d) with q | q
              · exact q
              · exact absurd c34 (nI_ne0 q (Nat.lt_of_le_of_lt (Nat.mod_le j d) hj)))
            refine lv_iconst (v := 0) hx hb d_G_isPrime_37 (by decide) ?_
            exact ro_z hx hb hr hlk d_G_isPrime_38 (by first | rfl | exact mz_bn _) ((mz_bf fun q => (q.2 d (by omega) hdd) hdv).symm)
    refine lv_iload_n hx hb d_G_isPrime_0 rfl (lv_at hl 0 rfl) ?_
    refine lv_iconst (v := 2) hx hb d_G_isPrime_1 (by decide) ?_
    refine lv_icmp_lt (tgt := 11) hx hb d_G_isPrime_2 (by decide) (fun c_ => absurd c_ (hx2)) (fun _ => ?_)
    refine lv_iload_n hx hb d_G_isPrime_5 rfl (lv_at hl 0 rfl) ?_
    refine lv_iconst (v := (nI 2)) hx hb d_G_isPrime_6 (by decide) ?_
    refine lv_irem hx hb d_G_isPrime_7 (by decide) ?_
    refine x_i (y := nI (j % 2)) (pk_rem hj (by omega) (by omega)) ?_
    refine lv_if_ne (tgt := 22) hx hb d_G_isPrime_8 (by decide) (fun c8 => ?_) (fun c8 => ?_)
    · have hodd : j % 2 = 1 := by
        rcases (show j % 2 = 0 ∨ j % 2 = 1 by omega) with q | q
        · exact absurd (by rw [q]; rfl) c8
        · exact q
      refine lv_iconst (v := (nI 3)) hx hb d_G_isPrime_22 (by decide) ?_
      refine lv_istore_n (lv' := [(1, .int (nI 3)), (0, .int (nI j))]) hx hb d_G_isPrime_23 rfl hl (by decide) rfl (fun ls hl => ?_)
      exact loop hodd (j + 3) 3 ls (by omega) (by omega) (by omega) (by omega) (by omega) (fun f hf1 hf2 hf3 => by
        have h9 : f = 2 := by omega
        subst h9
        omega) (lv_sub hl [1, 0] rfl)
    · have hev : j % 2 = 0 := by
        rcases (show j % 2 = 0 ∨ j % 2 = 1 by omega) with q | q
        · exact q
        · rw [q] at c8; exact absurd c8 (by decide)
      refine lv_iload_n hx hb d_G_isPrime_11 rfl (lv_at hl 0 rfl) ?_
      refine lv_iconst (v := (nI 2)) hx hb d_G_isPrime_12 (by decide) ?_
      refine lv_icmp_ne (tgt := 20) hx hb d_G_isPrime_13 (by decide) (fun c13 => ?_) (fun c13 => ?_)
      · have hne : ¬ j = 2 := fun q => c13 (by rw [q])
        refine lv_iconst (v := 0) hx hb d_G_isPrime_20 (by decide) ?_
        exact ro_z hx hb hr hlk d_G_isPrime_21 (by first | rfl | exact mz_bn _) ((mz_bf fun q => (q.2 2 (by omega) (by omega)) ⟨j / 2, by omega⟩).symm)
      · have heq : j = 2 := (nI_eq hj (by omega)).mp c13
        refine lv_iconst (v := 1) hx hb d_G_isPrime_16 (by decide) ?_
        refine lv_goto (tgt := 21) hx hb d_G_isPrime_17 (by decide) ?_
        exact ro_z hx hb hr hlk d_G_isPrime_21 (by first | rfl | exact mz_bn _) ((mz_bt ⟨hj2, fun f hf1 hf2 => by rw [heq] at hf2; exact absurd (Nat.le_trans (Nat.mul_le_mul hf1 hf1) hf2) (by decide)⟩).symm)
set_option maxRecDepth 100000 in
set_option maxHeartbeats 4000000 in
/-- isElement(x, p, q): 2 <= x < p and x^q is 1 modulo p -/
theorem c_G_isElement (l : Launch) (x0 : Int32) (p0 q0 : Nat) (hp2 : 2 ≤ p0) (hp : p0 < 2 ^ 31) (hq : q0 < 2 ^ 31) : Ro l y_G_isElement ws_G_isElement 1 27 [.int x0, .int (nI p0), .int (nI q0)] (fun _ => True) (mz_b (mz_el x0 p0 q0)) := by
  refine Met.ofW (cc := b_G_isElement) (maxL := 3) (ret := (some .boolean)) (by decide) rfl ?_
  intro p e s m args below meth c s₁ B hml hv
  obtain ⟨rfl, -⟩ := hv
  have hx := B.exec
  have hb := B.bytes
  have hr := B.returns
  have hts : ∀ w ∈ AL, w.before ([.int x0, .int (nI p0), .int (nI q0)] : List Value).toArray s = true := fun w h => atoms_spec (ws := ws_G_isElement) B.pre w (List.mem_cons_of_mem _ h)
  have hown : s.vm.findClass "DealtSecret$Group" = some m.cls := findClass_of_methodNamed B.named
  have hlk := B.notSynchronized
  have hl := lv_entry ([.int x0, .int (nI p0), .int (nI q0)]) (n := 3) (Nat.le_of_ble_eq_true rfl)
  rw [lg_entry_eq]
  generalize (lg_sl ([.int x0, .int (nI p0), .int (nI q0)]) ++ List.replicate (3 - (lg_sl ([.int x0, .int (nI p0), .int (nI q0)])).length) Slot.unset).toArray = ls at hl ⊢
  have hl : lv_has ls 3 [(0, .int x0), (1, .int (nI p0)), (2, .int (nI q0))] := hl
  by_cases hx2 : x0 < 2
  · refine lv_iload_n hx hb d_G_isElement_0 rfl (lv_at hl 0 rfl) ?_
    refine lv_iconst (v := 2) hx hb d_G_isElement_1 (by decide) ?_
    refine lv_icmp_lt (tgt := 24) hx hb d_G_isElement_2 (by decide) (fun _ => ?_) (fun c_ => absurd (hx2) c_)
    refine lv_iconst (v := 0) hx hb d_G_isElement_24 (by decide) ?_
    exact ro_z hx hb hr hlk d_G_isElement_25 (by first | rfl | exact mz_bn _) ((mz_bf fun q => q.1 hx2).symm)
  · obtain ⟨j, hj2, hj, rfl⟩ := nz_ge2 hx2
    refine lv_iload_n hx hb d_G_isElement_0 rfl (lv_at hl 0 rfl) ?_
    refine lv_iconst (v := 2) hx hb d_G_isElement_1 (by decide) ?_
    refine lv_icmp_lt (tgt := 24) hx hb d_G_isElement_2 (by decide) (fun c_ => absurd c_ (hx2)) (fun _ => ?_)
    refine lv_iload_n hx hb d_G_isElement_5 rfl (lv_at hl 0 rfl) ?_
    refine lv_iload_n hx hb d_G_isElement_6 rfl (lv_at hl 1 rfl) ?_
    refine lv_icmp_ge (tgt := 24) hx hb d_G_isElement_7 (by decide) (fun c7 => ?_) (fun c7 => ?_)
    · have hjp : ¬ j < p0 := fun q => absurd c7 (nI_ge q hp)
      refine lv_iconst (v := 0) hx hb d_G_isElement_24 (by decide) ?_
      exact ro_z hx hb hr hlk d_G_isElement_25 (by first | rfl | exact mz_bn _) ((mz_bf fun q => by
          have q2 := q.2
          rw [nI_clamp hj] at q2
          first | exact hjp q2.1 | exact h1 q2.2).symm)
    · have hjp : j < p0 := by
        rcases Nat.lt_or_ge j p0 with q | q
        · exact q
        · exact absurd (nI_le q hj) c7
      refine lv_iload_n hx hb d_G_isElement_10 rfl (lv_at hl 0 rfl) ?_
      refine lv_iload_n hx hb d_G_isElement_11 rfl (lv_at hl 2 rfl) ?_
      refine lv_iload_n hx hb d_G_isElement_12 rfl (lv_at hl 1 rfl) ?_
      refine ro_S (As := [.int (nI j), .int (nI q0), .int (nI p0)]) (rest := []) ⟨hx, hb, hml, hown, hts⟩ (c_G_powerModulo l j q0 p0 hj hq hp2 hp) (va_cwS 3 hts (al_S k_30 k_31 k_2 k_32) rfl rfl rfl (by decide +kernel) ⟨Nat.le_of_ble_eq_true rfl, Nat.le_of_ble_eq_true rfl⟩) (fun _ _ _ _ h => h) (fun _ _ _ => trivial) rfl hl.1 rfl (lv_room (Nat.le_of_ble_eq_true rfl)) d_G_isElement_13 ⟨Nat.zero_le _, Nat.zero_le _⟩ ?_
      refine lv_iconst (v := (nI 1)) hx hb d_G_isElement_16 (by decide) ?_
      refine lv_icmp_ne (tgt := 24) hx hb d_G_isElement_17 (by decide) (fun c17 => ?_) (fun c17 => ?_)
      · have h1 : ¬ j ^ q0 % p0 = 1 := fun q => c17 (by rw [q])
        refine lv_iconst (v := 0) hx hb d_G_isElement_24 (by decide) ?_
        exact ro_z hx hb hr hlk d_G_isElement_25 (by first | rfl | exact mz_bn _) ((mz_bf fun q => by
            have q2 := q.2
            rw [nI_clamp hj] at q2
            first | exact hjp q2.1 | exact h1 q2.2).symm)
      · have h1 : j ^ q0 % p0 = 1 := (nI_eq (Nat.lt_trans (Nat.mod_lt _ (by omega)) hp) (by omega)).mp c17
        refine lv_iconst (v := 1) hx hb d_G_isElement_20 (by decide) ?_
        refine lv_goto (tgt := 25) hx hb d_G_isElement_21 (by decide) ?_
        exact ro_z hx hb hr hlk d_G_isElement_25 (by first | rfl | exact mz_bn _) ((mz_bt ⟨hx2, by rw [nI_clamp hj]; exact hjp, by rw [nI_clamp hj]; exact h1⟩).symm)
set_option maxRecDepth 100000 in
set_option maxHeartbeats 4000000 in
/-- isSound(p, q, g, h) -/
theorem c_G_isSound (l : Launch) (p1 q1 g1 h1 : Int32) : Ro l y_G_isSound ws_G_isSound 2 49 [.int p1, .int q1, .int g1, .int h1] (fun _ => True) (mz_b (mz_so p1 q1 g1 h1)) := by
  refine Met.ofW (cc := b_G_isSound) (maxL := 4) (ret := (some .boolean)) (by decide) rfl ?_
  intro p e s m args below meth c s₁ B hml hv
  obtain ⟨rfl, -⟩ := hv
  have hx := B.exec
  have hb := B.bytes
  have hr := B.returns
  have hts : ∀ w ∈ AL, w.before ([.int p1, .int q1, .int g1, .int h1] : List Value).toArray s = true := fun w h => atoms_spec (ws := ws_G_isSound) B.pre w (List.mem_cons_of_mem _ h)
  have hown : s.vm.findClass "DealtSecret$Group" = some m.cls := findClass_of_methodNamed B.named
  have hlk := B.notSynchronized
  have hl := lv_entry ([.int p1, .int q1, .int g1, .int h1]) (n := 4) (Nat.le_of_ble_eq_true rfl)
  rw [lg_entry_eq]
  generalize (lg_sl ([.int p1, .int q1, .int g1, .int h1]) ++ List.replicate (4 - (lg_sl ([.int p1, .int q1, .int g1, .int h1])).length) Slot.unset).toArray = ls at hl ⊢
  have hl : lv_has ls 4 [(0, .int p1), (1, .int q1), (2, .int g1), (3, .int h1)] := hl
  by_cases hp2 : p1 < 2
  · refine lv_iload_n hx hb d_G_isSound_0 rfl (lv_at hl 0 rfl) ?_
    refine lv_iconst (v := 2) hx hb d_G_isSound_1 (by decide) ?_
    refine lv_icmp_lt (tgt := 59) hx hb d_G_isSound_2 (by decide) (fun _ => ?_) (fun c_ => absurd (hp2) c_)
    refine lv_iconst (v := 0) hx hb d_G_isSound_59 (by decide) ?_
    exact ro_z hx hb hr hlk d_G_isSound_60 (by first | rfl | exact mz_bn _) ((mz_bf fun q => absurd q.1.1 (Nat.not_le.mpr (nz_lt2 hp2))).symm)
  · by_cases hq2 : q1 < 2
    · refine lv_iload_n hx hb d_G_isSound_0 rfl (lv_at hl 0 rfl) ?_
      refine lv_iconst (v := 2) hx hb d_G_isSound_1 (by decide) ?_
      refine lv_icmp_lt (tgt := 59) hx hb d_G_isSound_2 (by decide) (fun c_ => absurd c_ (hp2)) (fun _ => ?_)
      refine lv_iload_n hx hb d_G_isSound_5 rfl (lv_at hl 1 rfl) ?_
      refine lv_iconst (v := 2) hx hb d_G_isSound_6 (by decide) ?_
      refine lv_icmp_lt (tgt := 59) hx hb d_G_isSound_7 (by decide) (fun _ => ?_) (fun c_ => absurd (hq2) c_)
      refine lv_iconst (v := 0) hx hb d_G_isSound_59 (by decide) ?_
      exact ro_z hx hb hr hlk d_G_isSound_60 (by first | rfl | exact mz_bn _) ((mz_bf fun q => absurd q.2.1.1 (Nat.not_le.mpr (nz_lt2 hq2))).symm)
    · obtain ⟨p0, hp02, hp0, rfl⟩ := nz_ge2 hp2
      obtain ⟨q0, hq02, hq0, rfl⟩ := nz_ge2 hq2
      refine lv_iload_n hx hb d_G_isSound_0 rfl (lv_at hl 0 rfl) ?_
      refine lv_iconst (v := 2) hx hb d_G_isSound_1 (by decide) ?_
      refine lv_icmp_lt (tgt := 59) hx hb d_G_isSound_2 (by decide) (fun c_ => absurd c_ (hp2)) (fun _ => ?_)
      refine lv_iload_n hx hb d_G_isSound_5 rfl (lv_at hl 1 rfl) ?_
      refine lv_iconst (v := 2) hx hb d_G_isSound_6 (by decide) ?_
      refine lv_icmp_lt (tgt := 59) hx hb d_G_isSound_7 (by decide) (fun c_ => absurd c_ (hq2)) (fun _ => ?_)
      refine lv_iload_n hx hb d_G_isSound_10 rfl (lv_at hl 0 rfl) ?_
      refine lv_iconst (v := (nI 1)) hx hb d_G_isSound_11 (by decide) ?_
      refine lv_isub hx hb d_G_isSound_12 ?_
      refine x_i (y := nI (p0 - 1)) (pk_sub (by omega)) ?_
      refine lv_iload_n hx hb d_G_isSound_13 rfl (lv_at hl 1 rfl) ?_
      refine lv_irem hx hb d_G_isSound_14 (nz_ine (by omega) hq0) ?_
      refine x_i (y := nI ((p0 - 1) % q0)) (pk_rem (by omega) (by omega) hq0) ?_
      refine lv_if_ne (tgt := 59) hx hb d_G_isSound_15 (by decide) (fun c15 => ?_) (fun c15 => ?_)
      · have h5 : ¬ (p0 - 1) % q0 = 0 := fun q => c15 (by rw [q]; rfl)
        refine lv_iconst (v := 0) hx hb d_G_isSound_59 (by decide) ?_
        exact ro_z hx hb hr hlk d_G_isSound_60 (by first | rfl | exact mz_bn _) ((mz_bf fun q => by
            obtain ⟨q10, q9, q5, q6, q7, q8⟩ := q
            rw [nI_clamp hp0, nI_clamp hq0] at q5 q7 q8
            first | exact h5 q5 | exact q6 h6 | exact h7 q7 | exact h8 q8 | exact h9 q9 | exact h10 q10).symm)
      · have h5 : (p0 - 1) % q0 = 0 := by
          rcases Nat.eq_zero_or_pos ((p0 - 1) % q0) with q | q
          · exact q
          · exact absurd c15 (nI_ne0 q (Nat.lt_trans (Nat.mod_lt _ (by omega)) hq0))
        refine lv_iload_n hx hb d_G_isSound_18 rfl (lv_at hl 2 rfl) ?_
        refine lv_iload_n hx hb d_G_isSound_19 rfl (lv_at hl 3 rfl) ?_
        refine lv_icmp_eq (tgt := 59) hx hb d_G_isSound_20 (by decide) (fun h6 => ?_) (fun h6 => ?_)
        · refine lv_iconst (v := 0) hx hb d_G_isSound_59 (by decide) ?_
          exact ro_z hx hb hr hlk d_G_isSound_60 (by first | rfl | exact mz_bn _) ((mz_bf fun q => by
              obtain ⟨q10, q9, q5, q6, q7, q8⟩ := q
              rw [nI_clamp hp0, nI_clamp hq0] at q5 q7 q8
              first | exact h5 q5 | exact q6 h6 | exact h7 q7 | exact h8 q8 | exact h9 q9 | exact h10 q10).symm)
        · refine lv_iload_n hx hb d_G_isSound_23 rfl (lv_at hl 2 rfl) ?_
          refine lv_iload_n hx hb d_G_isSound_24 rfl (lv_at hl 0 rfl) ?_
          refine lv_iload_n hx hb d_G_isSound_25 rfl (lv_at hl 1 rfl) ?_
          refine ro_S (As := [.int g1, .int (nI p0), .int (nI q0)]) (rest := []) ⟨hx, hb, hml, hown, hts⟩ (c_G_isElement l g1 p0 q0 hp02 hp0 hq0) (va_cwS 3 hts (al_S k_27 k_28 k_2 k_29) rfl rfl rfl (by decide +kernel) ⟨Nat.le_of_ble_eq_true rfl, Nat.le_of_ble_eq_true rfl⟩) (fun _ _ _ _ h => h) (fun _ _ _ => trivial) rfl hl.1 rfl (lv_room (Nat.le_of_ble_eq_true rfl)) d_G_isSound_26 ⟨Nat.zero_le _, Nat.zero_le _⟩ ?_
          refine lv_if_eq (tgt := 59) hx hb d_G_isSound_29 (by decide) (fun c29 => ?_) (fun c29 => ?_)
          · have h7 := mz_b0.mp c29
            refine lv_iconst (v := 0) hx hb d_G_isSound_59 (by decide) ?_
            exact ro_z hx hb hr hlk d_G_isSound_60 (by first | rfl | exact mz_bn _) ((mz_bf fun q => by
                obtain ⟨q10, q9, q5, q6, q7, q8⟩ := q
                rw [nI_clamp hp0, nI_clamp hq0] at q5 q7 q8
                first | exact h5 q5 | exact q6 h6 | exact h7 q7 | exact h8 q8 | exact h9 q9 | exact h10 q10).symm)
          · have h7 : mz_el g1 p0 q0 := Classical.not_not.mp (fun z => c29 (mz_b0.mpr z))
            refine lv_iload_n hx hb d_G_isSound_32 rfl (lv_at hl 3 rfl) ?_
            refine lv_iload_n hx hb d_G_isSound_33 rfl (lv_at hl 0 rfl) ?_
            refine lv_iload_n hx hb d_G_isSound_34 rfl (lv_at hl 1 rfl) ?_
            refine ro_S (As := [.int h1, .int (nI p0), .int (nI q0)]) (rest := []) ⟨hx, hb, hml, hown, hts⟩ (c_G_isElement l h1 p0 q0 hp02 hp0 hq0) (va_cwS 3 hts (al_S k_27 k_28 k_2 k_29) rfl rfl rfl (by decide +kernel) ⟨Nat.le_of_ble_eq_true rfl, Nat.le_of_ble_eq_true rfl⟩) (fun _ _ _ _ h => h) (fun _ _ _ => trivial) rfl hl.1 rfl (lv_room (Nat.le_of_ble_eq_true rfl)) d_G_isSound_35 ⟨Nat.zero_le _, Nat.zero_le _⟩ ?_
            refine lv_if_eq (tgt := 59) hx hb d_G_isSound_38 (by decide) (fun c38 => ?_) (fun c38 => ?_)
            · have h8 := mz_b0.mp c38
              refine lv_iconst (v := 0) hx hb d_G_isSound_59 (by decide) ?_
              exact ro_z hx hb hr hlk d_G_isSound_60 (by first | rfl | exact mz_bn _) ((mz_bf fun q => by
                  obtain ⟨q10, q9, q5, q6, q7, q8⟩ := q
                  rw [nI_clamp hp0, nI_clamp hq0] at q5 q7 q8
                  first | exact h5 q5 | exact q6 h6 | exact h7 q7 | exact h8 q8 | exact h9 q9 | exact h10 q10).symm)
            · have h8 : mz_el h1 p0 q0 := Classical.not_not.mp (fun z => c38 (mz_b0.mpr z))
              refine lv_iload_n hx hb d_G_isSound_41 rfl (lv_at hl 1 rfl) ?_
              refine ro_S (As := [.int (nI q0)]) (rest := []) ⟨hx, hb, hml, hown, hts⟩ (c_G_isPrime l (nI q0)) (va_cwS 1 hts (al_S k_33 k_34 k_2 k_35) rfl rfl rfl (by decide +kernel) ⟨Nat.le_of_ble_eq_true rfl, Nat.le_of_ble_eq_true rfl⟩) (fun _ _ _ _ h => h) (fun _ _ _ => trivial) rfl hl.1 rfl (lv_room (Nat.le_of_ble_eq_true rfl)) d_G_isSound_42 ⟨Nat.zero_le _, Nat.zero_le _⟩ ?_
              refine lv_if_eq (tgt := 59) hx hb d_G_isSound_45 (by decide) (fun c45 => ?_) (fun c45 => ?_)
              · have h9 := mz_b0.mp c45
                refine lv_iconst (v := 0) hx hb d_G_isSound_59 (by decide) ?_
                exact ro_z hx hb hr hlk d_G_isSound_60 (by first | rfl | exact mz_bn _) ((mz_bf fun q => by
                    obtain ⟨q10, q9, q5, q6, q7, q8⟩ := q
                    rw [nI_clamp hp0, nI_clamp hq0] at q5 q7 q8
                    first | exact h5 q5 | exact q6 h6 | exact h7 q7 | exact h8 q8 | exact h9 q9 | exact h10 q10).symm)
              · have h9 : mz_P (nI q0).toNatClampNeg := Classical.not_not.mp (fun z => c45 (mz_b0.mpr z))
                refine lv_iload_n hx hb d_G_isSound_48 rfl (lv_at hl 0 rfl) ?_
                refine ro_S (As := [.int (nI p0)]) (rest := []) ⟨hx, hb, hml, hown, hts⟩ (c_G_isPrime l (nI p0)) (va_cwS 1 hts (al_S k_33 k_34 k_2 k_35) rfl rfl rfl (by decide +kernel) ⟨Nat.le_of_ble_eq_true rfl, Nat.le_of_ble_eq_true rfl⟩) (fun _ _ _ _ h => h) (fun _ _ _ => trivial) rfl hl.1 rfl (lv_room (Nat.le_of_ble_eq_true rfl)) d_G_isSound_49 ⟨Nat.zero_le _, Nat.zero_le _⟩ ?_
                refine lv_if_eq (tgt := 59) hx hb d_G_isSound_52 (by decide) (fun c52 => ?_) (fun c52 => ?_)
                · have h10 := mz_b0.mp c52
                  refine lv_iconst (v := 0) hx hb d_G_isSound_59 (by decide) ?_
                  exact ro_z hx hb hr hlk d_G_isSound_60 (by first | rfl | exact mz_bn _) ((mz_bf fun q => by
                      obtain ⟨q10, q9, q5, q6, q7, q8⟩ := q
                      rw [nI_clamp hp0, nI_clamp hq0] at q5 q7 q8
                      first | exact h5 q5 | exact q6 h6 | exact h7 q7 | exact h8 q8 | exact h9 q9 | exact h10 q10).symm)
                · have h10 : mz_P (nI p0).toNatClampNeg := Classical.not_not.mp (fun z => c52 (mz_b0.mpr z))
                  refine lv_iconst (v := 1) hx hb d_G_isSound_55 (by decide) ?_
                  refine lv_goto (tgt := 60) hx hb d_G_isSound_56 (by decide) ?_
                  exact ro_z hx hb hr hlk d_G_isSound_60 (by first | rfl | exact mz_bn _) ((mz_bt ⟨h10, h9, by rw [nI_clamp hp0, nI_clamp hq0]; exact h5, h6, by rw [nI_clamp hp0, nI_clamp hq0]; exact h7, by rw [nI_clamp hp0, nI_clamp hq0]; exact h8⟩).symm)
set_option maxRecDepth 100000 in
set_option maxHeartbeats 4000000 in
/-- the reference's times(x, y, m) -/
theorem c_M_times (l : Launch) (x0 y0 m0 : Nat) (hx0 : x0 < 2 ^ 31) (hy0 : y0 < 2 ^ 31) (h1 : 0 < m0) (hm0 : m0 < 2 ^ 31) : Ro l y_M_times ws_M_times 0 0 [.int (nI x0), .int (nI y0), .int (nI m0)] (fun _ => True) (nI (x0 * y0 % m0)) := by
  refine Met.ofW (cc := b_M_times) (maxL := 3) (ret := (some .int)) (by decide) rfl ?_
  intro p e s m args below meth c s₁ B hml hv
  obtain ⟨rfl, -⟩ := hv
  have hx := B.exec
  have hb := B.bytes
  have hr := B.returns
  have hts : ∀ w ∈ AL, w.before ([.int (nI x0), .int (nI y0), .int (nI m0)] : List Value).toArray s = true := fun w h => atoms_spec (ws := ws_M_times) B.pre w (List.mem_cons_of_mem _ h)
  have hown : s.vm.findClass "DealtSecretModel" = some m.cls := findClass_of_methodNamed B.named
  have hlk := B.notSynchronized
  have hl := lv_entry ([.int (nI x0), .int (nI y0), .int (nI m0)]) (n := 3) (Nat.le_of_ble_eq_true rfl)
  rw [lg_entry_eq]
  generalize (lg_sl ([.int (nI x0), .int (nI y0), .int (nI m0)]) ++ List.replicate (3 - (lg_sl ([.int (nI x0), .int (nI y0), .int (nI m0)])).length) Slot.unset).toArray = ls at hl ⊢
  have hl : lv_has ls 3 [(0, .int (nI x0)), (1, .int (nI y0)), (2, .int (nI m0))] := hl
  have hxy := nz_m31 hx0 hy0
  refine lv_iload_n hx hb d_M_times_0 rfl (lv_at hl 0 rfl) ?_
  refine lv_i2l (v := (lN x0)) hx hb d_M_times_1 (nI_l hx0) ?_
  refine lv_iload_n hx hb d_M_times_2 rfl (lv_at hl 1 rfl) ?_
  refine lv_i2l (v := (lN y0)) hx hb d_M_times_3 (nI_l hy0) ?_
  refine lv_lmul hx hb d_M_times_4 ?_
  refine x_l (y := lN (x0 * y0)) (lN_mul _ _) ?_
  refine lv_iload_n hx hb d_M_times_5 rfl (lv_at hl 2 rfl) ?_
  refine lv_i2l (v := (lN m0)) hx hb d_M_times_6 (nI_l hm0) ?_
  refine lv_lrem hx hb d_M_times_7 (nz_lne h1 hm0) ?_
  refine x_l (y := lN (x0 * y0 % m0)) (nz_lrem hxy h1 hm0) ?_
  refine lv_l2i (v := (nI (x0 * y0 % m0))) hx hb d_M_times_8 (lN_i _) ?_
  exact ro_i hx hb hr hlk d_M_times_9 (rfl)
set_option maxRecDepth 100000 in
set_option maxHeartbeats 4000000 in
/-- the reference's power(x, e, m) = x^e modulo m -/
theorem c_M_power (l : Launch) (b0 e0 m0 : Nat) (hb0 : b0 < 2 ^ 31) (he0 : e0 < 2 ^ 31) (h1 : 0 < m0) (hm0 : m0 < 2 ^ 31) : Ro l y_M_power ws_M_power 1 22 [.int (nI b0), .int (nI e0), .int (nI m0)] (fun _ => True) (nI (b0 ^ e0 % m0)) := by
  refine Met.ofW (cc := b_M_power) (maxL := 6) (ret := (some .int)) (by decide) rfl ?_
  intro p e s m args below meth c s₁ B hml hv
  obtain ⟨rfl, -⟩ := hv
  have hx := B.exec
  have hb := B.bytes
  have hr := B.returns
  have hts : ∀ w ∈ AL, w.before ([.int (nI b0), .int (nI e0), .int (nI m0)] : List Value).toArray s = true := fun w h => atoms_spec (ws := ws_M_power) B.pre w (List.mem_cons_of_mem _ h)
  have hown : s.vm.findClass "DealtSecretModel" = some m.cls := findClass_of_methodNamed B.named
  have hlk := B.notSynchronized
  have hl := lv_entry ([.int (nI b0), .int (nI e0), .int (nI m0)]) (n := 6) (Nat.le_of_ble_eq_true rfl)
  rw [lg_entry_eq]
  generalize (lg_sl ([.int (nI b0), .int (nI e0), .int (nI m0)]) ++ List.replicate (6 - (lg_sl ([.int (nI b0), .int (nI e0), .int (nI m0)])).length) Slot.unset).toArray = ls at hl ⊢
  have hl : lv_has ls 6 [(0, .int (nI b0)), (1, .int (nI e0)), (2, .int (nI m0))] := hl
  have loop : ∀ (n r0 s0 k0 : Nat) (ls : Array Slot), k0 < n → k0 < 2 ^ 31 → r0 < m0 → s0 < m0 → r0 * s0 ^ k0 % m0 = b0 ^ e0 % m0 → lv_has ls 6 [(0, .int (nI b0)), (1, .int (nI e0)), (2, .int (nI m0)), (3, .int (nI r0)), (4, .int (nI s0)), (5, .int (nI k0))] → W p l e (headSpec ws_M_power { frames := 1, cells := 0, slots := 0, locals := 22 }).room s m [.int (nI b0), .int (nI e0), .int (nI m0)].toArray below meth c s.heap [] 0 0 (MQ below (QcRead (nI (b0 ^ e0 % m0))) [.int (nI b0), .int (nI e0), .int (nI m0)].toArray s 0 0 (fun _ => False)) (F0 m 12 ls []) := by
    intro n
    induction n with
    | zero =>
      intro r0 s0 k0 ls h1
      exact absurd h1 (Nat.not_lt_zero _)
    | succ n ih =>
      intro r0 s0 k0 ls hk hk2 hr0 hs0 hI hl
      have hst := mz_step m0 r0 s0 k0
      refine lv_iload hx hb d_M_power_12 (lv_at hl 5 rfl) ?_
      refine lv_if_le (tgt := 56) hx hb d_M_power_14 (by decide) (fun c14 => ?_) (fun c14 => ?_)
      · have hk0 : k0 = 0 := by
          rcases Nat.eq_zero_or_pos k0 with q | q
          · exact q
          · exact absurd c14 (nI_nle q hk2)
        subst hk0
        refine lv_iload_n hx hb d_M_power_56 rfl (lv_at hl 3 rfl) ?_
        exact ro_i hx hb hr hlk d_M_power_57 (by rw [← hI, Nat.pow_zero, Nat.mul_one, Nat.mod_eq_of_lt hr0])
      · have hkp : 0 < k0 := by
          rcases Nat.eq_zero_or_pos k0 with q | q
          · exact absurd (by rw [q]; decide) c14
          · exact q
        refine lv_iload hx hb d_M_power_17 (lv_at hl 5 rfl) ?_
        refine lv_iconst (v := (nI 2)) hx hb d_M_power_19 (by decide) ?_
        refine lv_irem hx hb d_M_power_20 (by decide) ?_
        refine x_i (y := nI (k0 % 2)) (pk_rem hk2 (by omega) (by omega)) ?_
        refine lv_iconst (v := (nI 1)) hx hb d_M_power_21 (by decide) ?_
        refine lv_icmp_ne (tgt := 35) hx hb d_M_power_22 (by decide) (fun c22 => ?_) (fun c22 => ?_)
        · have hke : ¬ k0 % 2 = 1 := fun q => c22 (by rw [q])
          rw [if_neg hke] at hst
          refine lv_iload_n hx hb d_M_power_35 rfl (lv_at hl 3 rfl) ?_
          refine lv_istore_n (lv' := [(3, .int (nI r0)), (0, .int (nI b0)), (1, .int (nI e0)), (2, .int (nI m0)), (4, .int (nI s0)), (5, .int (nI k0))]) hx hb d_M_power_36 rfl hl (by decide) rfl (fun ls hl => ?_)
          refine lv_iload hx hb d_M_power_37 (lv_at hl 4 rfl) ?_
          refine lv_iload hx hb d_M_power_39 (lv_at hl 4 rfl) ?_
          refine lv_iload_n hx hb d_M_power_41 rfl (lv_at hl 3 rfl) ?_
          refine ro_S (As := [.int (nI s0), .int (nI s0), .int (nI m0)]) (rest := []) ⟨hx, hb, hml, hown, hts⟩ (c_M_times l s0 s0 m0 (by omega) (by omega) h1 hm0) (va_cwS 3 hts (al_S k_440 k_441 k_4 k_442) rfl rfl rfl (by decide +kernel) ⟨Nat.le_of_ble_eq_true rfl, Nat.le_of_ble_eq_true rfl⟩) (fun _ _ _ _ h => h) (fun _ _ _ => trivial) rfl hl.1 rfl (lv_room (Nat.le_of_ble_eq_true rfl)) d_M_power_42 ⟨Nat.zero_le _, Nat.zero_le _⟩ ?_
          refine lv_istore (lv' := [(4, .int (nI (s0 * s0 % m0))), (3, .int (nI r0)), (0, .int (nI b0)), (1, .int (nI e0)), (2, .int (nI m0)), (5, .int (nI k0))]) hx hb d_M_power_45 hl (by decide) rfl (fun ls hl => ?_)
          refine lv_iload hx hb d_M_power_47 (lv_at hl 5 rfl) ?_
          refine lv_iconst (v := (nI 2)) hx hb d_M_power_49 (by decide) ?_
          refine lv_idiv hx hb d_M_power_50 (by decide) ?_
          refine x_i (y := nI (k0 / 2)) (pk_div hk2 (by omega) (by omega)) ?_
          refine lv_istore (lv' := [(5, .int (nI (k0 / 2))), (4, .int (nI (s0 * s0 % m0))), (3, .int (nI r0)), (0, .int (nI b0)), (1, .int (nI e0)), (2, .int (nI m0))]) hx hb d_M_power_51 hl (by decide) rfl (fun ls hl => ?_)
          refine lv_goto (tgt := 12) hx hb d_M_power_53 (by decide) ?_
          exact ih r0 (s0 * s0 % m0) (k0 / 2) ls (by omega) (by omega) (by first | exact hr0 | exact Nat.mod_lt _ h1) (Nat.mod_lt _ h1) (hst.trans hI) (lv_sub hl [3, 4, 5, 2, 1, 0] rfl)
        · have hko : k0 % 2 = 1 := (nI_eq (by omega) (by omega)).mp c22
          rw [if_pos hko] at hst
          refine lv_iload_n hx hb d_M_power_25 rfl (lv_at hl 3 rfl) ?_
          refine lv_iload hx hb d_M_power_26 (lv_at hl 4 rfl) ?_
          refine lv_iload_n hx hb d_M_power_28 rfl (lv_at hl 2 rfl) ?_
          refine ro_S (As := [.int (nI r0), .int (nI s0), .int (nI m0)]) (rest := []) ⟨hx, hb, hml, hown, hts⟩ (c_M_times l r0 s0 m0 (by omega) (by omega) h1 hm0) (va_cwS 3 hts (al_S k_440 k_441 k_4 k_442) rfl rfl rfl (by decide +kernel) ⟨Nat.le_of_ble_eq_true rfl, Nat.le_of_ble_eq_true rfl⟩) (fun _ _ _ _ h => h) (fun _ _ _ => trivial) rfl hl.1 rfl (lv_room (Nat.le_of_ble_eq_true rfl)) d_M_power_29 ⟨Nat.zero_le _, Nat.zero_le _⟩ ?_
          refine lv_goto (tgt := 36) hx hb d_M_power_32 (by decide) ?_
          refine lv_istore_n (lv' := [(3, .int (nI (r0 * s0 % m0))), (0, .int (nI b0)), (1, .int (nI e0)), (2, .int (nI m0)), (4, .int (nI s0)), (5, .int (nI k0))]) hx hb d_M_power_36 rfl hl (by decide) rfl (fun ls hl => ?_)
          refine lv_iload hx hb d_M_power_37 (lv_at hl 4 rfl) ?_
          refine lv_iload hx hb d_M_power_39 (lv_at hl 4 rfl) ?_
          refine lv_iload_n hx hb d_M_power_41 rfl (lv_at hl 3 rfl) ?_
          refine ro_S (As := [.int (nI s0), .int (nI s0), .int (nI m0)]) (rest := []) ⟨hx, hb, hml, hown, hts⟩ (c_M_times l s0 s0 m0 (by omega) (by omega) h1 hm0) (va_cwS 3 hts (al_S k_440 k_441 k_4 k_442) rfl rfl rfl (by decide +kernel) ⟨Nat.le_of_ble_eq_true rfl, Nat.le_of_ble_eq_true rfl⟩) (fun _ _ _ _ h => h) (fun _ _ _ => trivial) rfl hl.1 rfl (lv_room (Nat.le_of_ble_eq_true rfl)) d_M_power_42 ⟨Nat.zero_le _, Nat.zero_le _⟩ ?_
          refine lv_istore (lv' := [(4, .int (nI (s0 * s0 % m0))), (3, .int (nI (r0 * s0 % m0))), (0, .int (nI b0)), (1, .int (nI e0)), (2, .int (nI m0)), (5, .int (nI k0))]) hx hb d_M_power_45 hl (by decide) rfl (fun ls hl => ?_)
          refine lv_iload hx hb d_M_power_47 (lv_at hl 5 rfl) ?_
          refine lv_iconst (v := (nI 2)) hx hb d_M_power_49 (by decide) ?_
          refine lv_idiv hx hb d_M_power_50 (by decide) ?_
          refine x_i (y := nI (k0 / 2)) (pk_div hk2 (by omega) (by omega)) ?_
          refine lv_istore (lv' := [(5, .int (nI (k0 / 2))), (4, .int (nI (s0 * s0 % m0))), (3, .int (nI (r0 * s0 % m0))), (0, .int (nI b0)), (1, .int (nI e0)), (2, .int (nI m0))]) hx hb d_M_power_51 hl (by decide) rfl (fun ls hl => ?_)
          refine lv_goto (tgt := 12) hx hb d_M_power_53 (by decide) ?_
          exact ih (r0 * s0 % m0) (s0 * s0 % m0) (k0 / 2) ls (by omega) (by omega) (by first | exact hr0 | exact Nat.mod_lt _ h1) (Nat.mod_lt _ h1) (hst.trans hI) (lv_sub hl [3, 4, 5, 2, 1, 0] rfl)
  refine lv_iconst (v := (nI 1)) hx hb d_M_power_0 (by decide) ?_
  refine lv_iload_n hx hb d_M_power_1 rfl (lv_at hl 2 rfl) ?_
  refine lv_irem hx hb d_M_power_2 (nz_ine h1 hm0) ?_
  refine x_i (y := nI (1 % m0)) (pk_rem (by omega) h1 hm0) ?_
  refine lv_istore_n (lv' := [(3, .int (nI (1 % m0))), (0, .int (nI b0)), (1, .int (nI e0)), (2, .int (nI m0))]) hx hb d_M_power_3 rfl hl (by decide) rfl (fun ls hl => ?_)
  refine lv_iload_n hx hb d_M_power_4 rfl (lv_at hl 1 rfl) ?_
  refine lv_iload_n hx hb d_M_power_5 rfl (lv_at hl 3 rfl) ?_
  refine lv_irem hx hb d_M_power_6 (nz_ine h1 hm0) ?_
  refine x_i (y := nI (b0 % m0)) (pk_rem hb0 h1 hm0) ?_
  refine lv_istore (lv' := [(4, .int (nI (b0 % m0))), (3, .int (nI (1 % m0))), (0, .int (nI b0)), (1, .int (nI e0)), (2, .int (nI m0))]) hx hb d_M_power_7 hl (by decide) rfl (fun ls hl => ?_)
  refine lv_iload_n hx hb d_M_power_9 rfl (lv_at hl 3 rfl) ?_
  refine lv_istore (lv' := [(5, .int (nI e0)), (4, .int (nI (b0 % m0))), (3, .int (nI (1 % m0))), (0, .int (nI b0)), (1, .int (nI e0)), (2, .int (nI m0))]) hx hb d_M_power_10 hl (by decide) rfl (fun ls hl => ?_)
  exact loop (e0 + 1) (1 % m0) (b0 % m0) e0 ls (by omega) he0 (Nat.mod_lt _ h1) (Nat.mod_lt _ h1) (by rw [Nat.mul_mod, Nat.mod_mod, ← Nat.mul_mod, Nat.one_mul, ← Nat.pow_mod]) (lv_sub hl [3, 4, 5, 2, 1, 0] rfl)
set_option maxRecDepth 100000 in
set_option maxHeartbeats 4000000 in
/-- the reference's prime(x) -/
theorem c_M_prime (l : Launch) (x0 : Int32) : Ro l y_M_prime ws_M_prime 0 0 [.int x0] (fun _ => True) (mz_b (mz_P x0.toNatClampNeg)) := by
  refine Met.ofW (cc := b_M_prime) (maxL := 2) (ret := (some .boolean)) (by decide) rfl ?_
  intro p e s m args below meth c s₁ B hml hv
  obtain ⟨rfl, -⟩ := hv
  have hx := B.exec
  have hb := B.bytes
  have hr := B.returns
  have hts : ∀ w ∈ AL, w.before ([.int x0] : List Value).toArray s = true := fun w h => atoms_spec (ws := ws_M_prime) B.pre w (List.mem_cons_of_mem _ h)
  have hown : s.vm.findClass "DealtSecretModel" = some m.cls := findClass_of_methodNamed B.named
  have hlk := B.notSynchronized
  have hl := lv_entry ([.int x0]) (n := 2) (Nat.le_of_ble_eq_true rfl)
  rw [lg_entry_eq]
  generalize (lg_sl ([.int x0]) ++ List.replicate (2 - (lg_sl ([.int x0])).length) Slot.unset).toArray = ls at hl ⊢
  have hl : lv_has ls 2 [(0, .int x0)] := hl
  by_cases hx2 : x0 < 2
  · refine lv_iload_n hx hb d_M_prime_0 rfl (lv_at hl 0 rfl) ?_
    refine lv_iconst (v := 2) hx hb d_M_prime_1 (by decide) ?_
    refine lv_icmp_ge (tgt := 7) hx hb d_M_prime_2 (by decide) (fun c_ => absurd c_ (Int32.not_le.mpr hx2)) (fun _ => ?_)
    refine lv_iconst (v := 0) hx hb d_M_prime_5 (by decide) ?_
    exact ro_z hx hb hr hlk d_M_prime_6 (by first | rfl | exact mz_bn _) ((mz_bf fun q => absurd q.1 (Nat.not_le.mpr (nz_lt2 hx2))).symm)
  · obtain ⟨j, hj2, hj, rfl⟩ := nz_ge2 hx2
    rw [nI_clamp hj]
    have loop : ∀ (n d : Nat) (ls : Array Slot), j + 2 ≤ d + n → d ≤ j + 1 → d < 46342 → 2 ≤ d → (∀ f : Nat, 2 ≤ f → f < d → ¬ f ∣ j) → lv_has ls 2 [(0, .int (nI j)), (1, .int (nI d))] → W p l e (headSpec ws_M_prime { frames := 0, cells := 0, slots := 0, locals := 0 }).room s m [Value.int (nI j)].toArray below meth c s.heap [] 0 0 (MQ below (QcRead (mz_b (mz_P j))) [Value.int (nI j)].toArray s 0 0 (fun _ => False)) (F0 m 9 ls []) := by
      intro n
      induction n with
      | zero =>
        intro d ls h1 h2
        omega
      | succ n ih =>
        intro d ls h1 h2 h20 h3 hI hl
        refine lv_iload_n hx hb d_M_prime_9 rfl (lv_at hl 1 rfl) ?_
        refine lv_ldc (v := (nI 46340)) hx hb hown (hts _ k_436) d_M_prime_10 ?_
        refine lv_icmp_gt (tgt := 36) hx hb d_M_prime_12 (by decide) (fun c12 => ?_) (fun c12 => ?_)
        · have hdd : j < d * d := by
            have h5 : 46340 < d := (nI_ltI (by omega) (by omega)).mp c12
            have h6 : d = 46341 := by omega
            subst h6
            omega
          refine lv_iconst (v := 1) hx hb d_M_prime_36 (by decide) ?_
          exact ro_z hx hb hr hlk d_M_prime_37 (by first | rfl | exact mz_bn _) ((mz_bt ⟨hj2, fun f hf1 hf2 hf3 => by
              rcases Nat.lt_or_ge f d with q | q
              · exact hI f hf1 q hf3
              · exact absurd (Nat.le_trans (Nat.mul_le_mul q q) hf2) (Nat.not_le.mpr hdd)⟩).symm)
        · have hd46 : d ≤ 46340 := by
            rcases Nat.lt_or_ge 46340 d with q | q
            · exact absurd (nI_lt q (by omega)) c12
            · exact q
          have hd2 : d * d ≤ 46340 * 46340 := Nat.mul_le_mul hd46 hd46
          refine lv_iload_n hx hb d_M_prime_15 rfl (lv_at hl 1 rfl) ?_
          refine lv_iload_n hx hb d_M_prime_16 rfl (lv_at hl 1 rfl) ?_
          refine lv_imul hx hb d_M_prime_17 ?_
          refine x_i (y := nI (d * d)) (pk_mul d d) ?_
          refine lv_iload_n hx hb d_M_prime_18 rfl (lv_at hl 0 rfl) ?_
          refine lv_icmp_gt (tgt := 36) hx hb d_M_prime_19 (by decide) (fun c19 => ?_) (fun c19 => ?_)
          · have hdd : j < d * d := (nI_ltI hj (by omega)).mp c19
            refine lv_iconst (v := 1) hx hb d_M_prime_36 (by decide) ?_
            exact ro_z hx hb hr hlk d_M_prime_37 (by first | rfl | exact mz_bn _) ((mz_bt ⟨hj2, fun f hf1 hf2 hf3 => by
                rcases Nat.lt_or_ge f d with q | q
                · exact hI f hf1 q hf3
                · exact absurd (Nat.le_trans (Nat.mul_le_mul q q) hf2) (Nat.not_le.mpr hdd)⟩).symm)
          · have hdd : d * d ≤ j := by
              rcases Nat.lt_or_ge j (d * d) with q | q
              · exact absurd (nI_lt q (by omega)) c19
              · exact q
            have hdj : d ≤ j := Nat.le_trans (Nat.le_mul_of_pos_left d (by omega)) hdd
            refine lv_iload_n hx hb d_M_prime_22 rfl (lv_at hl 0 rfl) ?_
            refine lv_iload_n hx hb d_M_prime_23 rfl (lv_at hl 1 rfl) ?_
            refine lv_irem hx hb d_M_prime_24 (nz_ine (by omega) (by omega)) ?_
            refine x_i (y := nI (j % d)) (pk_rem hj (by omega) (by omega)) ?_
            refine lv_if_ne (tgt := 30) hx hb d_M_prime_25 (by decide) (fun c25 => ?_) (fun c25 => ?_)
            · have hnd : ¬ d ∣ j := fun q => c25 (by rw [Nat.mod_eq_zero_of_dvd q]; rfl)
              refine lv_iinc (v := (nI (d + 1))) (lv' := [(1, .int (nI (d + 1))), (0, .int (nI j))]) hx hb d_M_prime_30 hl (k := 1) rfl (nI_1 d) (by decide) rfl (fun ls hl => ?_)
              refine lv_goto (tgt := 9) hx hb d_M_prime_33 (by decide) ?_
              exact ih (d + 1) ls (by omega) (by omega) (by omega) (by omega) (fun f hf1 hf2 => by
                rcases (show f < d ∨ f = d by omega) with q | q
                · exact hI f hf1 q
                · rw [q]; exact hnd) (lv_sub hl [1, 0] rfl)
            · have hdv : d ∣ j := Nat.dvd_of_mod_eq_zero (by
                rcases Nat.eq_zero_or_pos (j % d) with q | q
                · exact q
                · exact absurd c25 (nI_ne0 q (Nat.lt_of_le_of_lt (Nat.mod_le j d) hj)))
              refine lv_iconst (v := 0) hx hb d_M_prime_28 (by decide) ?_
              exact ro_z hx hb hr hlk d_M_prime_29 (by first | rfl | exact mz_bn _) ((mz_bf fun q => (q.2 d h3 hdd) hdv).symm)
    refine lv_iload_n hx hb d_M_prime_0 rfl (lv_at hl 0 rfl) ?_
    refine lv_iconst (v := 2) hx hb d_M_prime_1 (by decide) ?_
    refine lv_icmp_ge (tgt := 7) hx hb d_M_prime_2 (by decide) (fun _ => ?_) (fun c_ => absurd (Int32.not_lt.mp hx2) c_)
    refine lv_iconst (v := (nI 2)) hx hb d_M_prime_7 (by decide) ?_
    refine lv_istore_n (lv' := [(1, .int (nI 2)), (0, .int (nI j))]) hx hb d_M_prime_8 rfl hl (by decide) rfl (fun ls hl => ?_)
    exact loop j 2 ls (by omega) (by omega) (by omega) (by omega) (fun f hf1 hf2 => by omega) (lv_sub hl [1, 0] rfl)
set_option maxRecDepth 100000 in
set_option maxHeartbeats 4000000 in
/-- Math.floorMod(x, q) -/
theorem c_J_floorMod (l : Launch) (x0 : Int32) (q0 : Nat) (h1 : 0 < q0) (hm0 : q0 < 2 ^ 31) : Ro l y_J_floorMod ws_J_floorMod 0 0 [.int x0, .int (nI q0)] (fun _ => True) (nI (md x0 q0)) := by
  refine va_MetF (cc := b_J_floorMod) (maxL := 3) (ret := (some .int)) (by decide +kernel) rfl ?_
  intro p e s m args below meth c s₁ B hml hv
  obtain ⟨rfl, -⟩ := hv
  have hx := B.exec
  have hb := B.bytes
  have hr := B.returns
  have hts : ∀ w ∈ AL, w.before ([.int x0, .int (nI q0)] : List Value).toArray s = true := fun w h => atoms_spec (ws := ws_J_floorMod) B.pre w (List.mem_cons_of_mem _ h)
  have hown : s.vm.findClass "java/lang/Math" = some m.cls := findClass_of_methodNamed B.named
  have hlk := B.notSynchronized
  have hl := lv_entry ([.int x0, .int (nI q0)]) (n := 3) (Nat.le_of_ble_eq_true rfl)
  rw [lg_entry_eq]
  generalize (lg_sl ([.int x0, .int (nI q0)]) ++ List.replicate (3 - (lg_sl ([.int x0, .int (nI q0)])).length) Slot.unset).toArray = ls at hl ⊢
  have hl : lv_has ls 3 [(0, .int x0), (1, .int (nI q0))] := hl
  have hmd := md_rem (x := x0) (q := q0) h1 hm0
  have hxo := md_xor (r := x0) (y := nI q0) (nI_pos hm0)
  have hsg := md_sign (x := x0) h1 hm0
  refine lv_iload_n hx hb d_J_floorMod_0 rfl (lv_at hl 0 rfl) ?_
  refine lv_iload_n hx hb d_J_floorMod_1 rfl (lv_at hl 1 rfl) ?_
  refine lv_irem hx hb d_J_floorMod_2 (nz_ine h1 hm0) ?_
  refine lv_istore_n (lv' := [(2, .int (x0 - x0 / (nI q0) * (nI q0))), (0, .int x0), (1, .int (nI q0))]) hx hb d_J_floorMod_3 rfl hl (by decide) rfl (fun ls hl => ?_)
  refine lv_iload_n hx hb d_J_floorMod_4 rfl (lv_at hl 1 rfl) ?_
  refine lv_iload_n hx hb d_J_floorMod_5 rfl (lv_at hl 2 rfl) ?_
  refine lv_ixor hx hb d_J_floorMod_6 ?_
  refine lv_if_ge (tgt := 18) hx hb d_J_floorMod_7 (by decide) (fun c7 => ?_) (fun c7 => ?_)
  · refine lv_iload_n hx hb d_J_floorMod_18 rfl (lv_at hl 0 rfl) ?_
    exact ro_i hx hb hr hlk d_J_floorMod_19 (hmd.1 (by first | exact hsg.1 (fun q => Int32.not_le.mpr (hxo.mpr q) c7) | (rw [c11]; decide)))
  · refine lv_iload_n hx hb d_J_floorMod_10 rfl (lv_at hl 0 rfl) ?_
    refine lv_if_eq (tgt := 18) hx hb d_J_floorMod_11 (by decide) (fun c11 => ?_) (fun c11 => ?_)
    · refine lv_iload_n hx hb d_J_floorMod_18 rfl (lv_at hl 0 rfl) ?_
      exact ro_i hx hb hr hlk d_J_floorMod_19 (hmd.1 (by first | exact hsg.1 (fun q => Int32.not_le.mpr (hxo.mpr q) c7) | (rw [c11]; decide)))
    · refine lv_iload_n hx hb d_J_floorMod_14 rfl (lv_at hl 0 rfl) ?_
      refine lv_iload_n hx hb d_J_floorMod_15 rfl (lv_at hl 2 rfl) ?_
      refine lv_iadd hx hb d_J_floorMod_16 ?_
      exact ro_i hx hb hr hlk d_J_floorMod_17 (hmd.2 (hsg.2 (hxo.mp (Int32.not_le.mp c7)) c11))
end
section
/-! the worlds: the class's cells, the reference's cells -/
abbrev fP (S : Nat → Nat → Int32) (j : Nat) : List Value := [.int (S 4 j), .int (S 5 j), .int (S 6 j), .int (S 7 j), .int (S 8 j), .int (S 9 j), .int (S 10 j), .int (S 11 j), .int (S 12 j)]
abbrev fC (Z : Nat → Nat) (S : Nat → Nat → Int32) : List Value := [.ref (Z 1), .ref (Z 2), .ref (Z 3), .ref (Z 4), .ref (Z 5), .int (S 0 0), .int (S 0 1), .int (S 0 2), .int (S 0 3), .int (S 0 4), .int (S 0 5)]
def wX (Z : Nat → Nat) (cI cP : ClassId) (p0 q0 g0 h0 : Nat) (S : Nat → Nat → Int32) : va_W := [(Z 0, .inr (2, fC Z S)), (Z 1, .inr (0, [.int (nI p0), .int (nI q0), .int (nI g0), .int (nI h0)])), (Z 2, .inl (cI, 7, .inl (S 1))), (Z 3, .inl (cI, 7, .inl (S 2))), (Z 4, .inl (cI, 7, .inl (S 3))), (Z 5, .inl (cP, 7, .inr (.inr (.inr (.inr (fun j => some (Z (6 + j))))))))]
def wC (Z : Nat → Nat) (cI cP : ClassId) (p0 q0 g0 h0 : Nat) (S : Nat → Nat → Int32) : va_W := wX Z cI cP p0 q0 g0 h0 S ++ (List.range 7).map (fun j => (Z (6 + j), .inr (1, fP S j)))
theorem w_part {Z : Nat → Nat} {cI cP : ClassId} {p0 q0 g0 h0 : Nat} {S : Nat → Nat → Int32} {j : Nat} (hj : j < 7) : (wC Z cI cP p0 q0 g0 h0 S)[6 + j]? = some (Z (6 + j), .inr (1, fP S j)) := w_get (X := wX Z cI cP p0 q0 g0 h0 S) (f := fun j => (Z (6 + j), .inr (1, fP S j))) hj
abbrev tysC (cI cP : ClassId) : List (ClassId × FieldType) := [(cI, .int), (cP, .object "DealtSecret$Participant")]
abbrev bC (dC : Nat → ClassId) (dI : Nat → Nat → Nat) (Z : Nat → Nat) (cI cP : ClassId) (p0 q0 g0 h0 : Nat) (S : Nat → Nat → Int32) : State → Prop := fun U => va_P (dC, dI) cls (wC Z cI cP p0 q0 g0 h0 S) U.heap ∧ va_K (dC, dI) cls (tysC cI cP) U
abbrev bG (dC : Nat → ClassId) (dI : Nat → Nat → Nat) (gr p0 q0 g0 h0 : Nat) : State → Prop := fun U => va_P (dC, dI) cls [(gr, .inr (0, [.int (nI p0), .int (nI q0), .int (nI g0), .int (nI h0)]))] U.heap ∧ va_K (dC, dI) cls [] U
abbrev fM (Y : Nat → Nat) (p0 q0 g0 h0 : Nat) (S : Nat → Nat → Int32) : List Value := [.int (nI p0), .int (nI q0), .int (nI g0), .int (nI h0), .int (S 0 0), .int (S 0 1), .int (S 0 2), .int (S 0 3), .int (S 0 4), .ref (Y 1), .ref (Y 2), .ref (Y 3), .ref (Y 4), .ref (Y 5), .ref (Y 6), .ref (Y 7), .ref (Y 8), .ref (Y 9), .ref (Y 10), .ref (Y 11), .int (S 0 5), .int (S 0 6), .ref (Y 12), .ref (Y 13)]
def wM (Y : Nat → Nat) (cI cZ : ClassId) (p0 q0 g0 h0 : Nat) (S : Nat → Nat → Int32) : va_W := [(Y 0, .inr (3, fM Y p0 q0 g0 h0 S)), (Y 1, .inl (cI, 7, .inl (S 1))), (Y 2, .inl (cI, 7, .inl (S 2))), (Y 3, .inl (cI, 7, .inl (S 3))), (Y 4, .inl (cZ, 8, .inl (S 4))), (Y 5, .inl (cZ, 8, .inl (S 5))), (Y 6, .inl (cZ, 8, .inl (S 6))), (Y 7, .inl (cI, 8, .inl (S 7))), (Y 8, .inl (cI, 8, .inl (S 8))), (Y 9, .inl (cZ, 8, .inl (S 9))), (Y 10, .inl (cI, 8, .inl (S 10))), (Y 11, .inl (cI, 8, .inl (S 11))), (Y 12, .inl (cI, 7, .inl (S 12))), (Y 13, .inl (cI, 7, .inl (S 13)))]
abbrev tysM (cI cZ : ClassId) : List (ClassId × FieldType) := [(cI, .int), (cZ, .boolean)]
abbrev bM (dC : Nat → ClassId) (dI : Nat → Nat → Nat) (Y : Nat → Nat) (cI cZ : ClassId) (p0 q0 g0 h0 : Nat) (S : Nat → Nat → Int32) : State → Prop := fun U => va_P (dC, dI) cls (wM Y cI cZ p0 q0 g0 h0 S) U.heap ∧ va_K (dC, dI) cls (tysM cI cZ) U
end
section
set_option maxRecDepth 100000 in
set_option maxHeartbeats 4000000 in
/-- product(x, y) -/
theorem c_G_product (l : Launch) (dC : Nat → ClassId) (dI : Nat → Nat → Nat) (gr p0 q0 g0 h0 : Nat) (x0 y0 : Nat) (hx0 : x0 < 2 ^ 31) (hy0 : y0 < 2 ^ 31) (h1 : 0 < p0) (hm0 : p0 < 2 ^ 31) : Ro l y_G_product ws_G_product 0 0 [.ref gr, .int (nI x0), .int (nI y0)] (bG dC dI gr p0 q0 g0 h0) (nI (x0 * y0 % p0)) := by
  refine Met.ofW (cc := b_G_product) (maxL := 3) (ret := (some .int)) (by decide) rfl ?_
  intro p e s m args below meth c s₁ B hml hv
  obtain ⟨rfl, hP, hK⟩ := hv
  have hx := B.exec
  have hb := B.bytes
  have hr := B.returns
  have hts : ∀ w ∈ AL, w.before ([.ref gr, .int (nI x0), .int (nI y0)] : List Value).toArray s = true := fun w h => atoms_spec (ws := ws_G_product) B.pre w (List.mem_cons_of_mem _ h)
  have hown : s.vm.findClass "DealtSecret$Group" = some m.cls := findClass_of_methodNamed B.named
  have hlk := B.notSynchronized
  have hl := lv_entry ([.ref gr, .int (nI x0), .int (nI y0)]) (n := 3) (Nat.le_of_ble_eq_true rfl)
  rw [lg_entry_eq]
  generalize (lg_sl ([.ref gr, .int (nI x0), .int (nI y0)]) ++ List.replicate (3 - (lg_sl ([.ref gr, .int (nI x0), .int (nI y0)])).length) Slot.unset).toArray = ls at hl ⊢
  have hl : lv_has ls 3 [(0, .ref gr), (1, .int (nI x0)), (2, .int (nI y0))] := hl
  have hxy := nz_m31 hx0 hy0
  refine lv_iload_n hx hb d_G_product_0 rfl (lv_at hl 1 rfl) ?_
  refine lv_i2l (v := (lN x0)) hx hb d_G_product_1 (nI_l hx0) ?_
  refine lv_iload_n hx hb d_G_product_2 rfl (lv_at hl 2 rfl) ?_
  refine lv_i2l (v := (lN y0)) hx hb d_G_product_3 (nI_l hy0) ?_
  refine lv_lmul hx hb d_G_product_4 ?_
  refine x_l (y := lN (x0 * y0)) (lN_mul _ _) ?_
  refine lv_aload_n hx hb d_G_product_5 rfl (lv_at hl 0 rfl) ?_
  refine va_get (D := (dC, dI)) (ci := 0) (v := .int (nI p0)) (C := "DealtSecret$Group") (T := T_G) (N := 4) hx hb hts i_G hown hK hP 0 rfl rfl 0 (by decide) (hts _ k_42) (fun _ h9 => h9) rfl d_G_product_6 ?_
  refine lv_i2l (v := (lN p0)) hx hb d_G_product_9 (nI_l hm0) ?_
  refine lv_lrem hx hb d_G_product_10 (nz_lne h1 hm0) ?_
  refine x_l (y := lN (x0 * y0 % p0)) (nz_lrem hxy h1 hm0) ?_
  refine lv_l2i (v := (nI (x0 * y0 % p0))) hx hb d_G_product_11 (lN_i _) ?_
  exact ro_i hx hb hr hlk d_G_product_12 (rfl)
set_option maxRecDepth 100000 in
set_option maxHeartbeats 4000000 in
/-- times(x, y) -/
theorem c_G_times (l : Launch) (dC : Nat → ClassId) (dI : Nat → Nat → Nat) (gr p0 q0 g0 h0 : Nat) (x0 y0 : Nat) (hx0 : x0 < 2 ^ 31) (hy0 : y0 < 2 ^ 31) (h1 : 0 < q0) (hm0 : q0 < 2 ^ 31) : Ro l y_G_times ws_G_times 0 0 [.ref gr, .int (nI x0), .int (nI y0)] (bG dC dI gr p0 q0 g0 h0) (nI (x0 * y0 % q0)) := by
  refine Met.ofW (cc := b_G_times) (maxL := 3) (ret := (some .int)) (by decide) rfl ?_
  intro p e s m args below meth c s₁ B hml hv
  obtain ⟨rfl, hP, hK⟩ := hv
  have hx := B.exec
  have hb := B.bytes
  have hr := B.returns
  have hts : ∀ w ∈ AL, w.before ([.ref gr, .int (nI x0), .int (nI y0)] : List Value).toArray s = true := fun w h => atoms_spec (ws := ws_G_times) B.pre w (List.mem_cons_of_mem _ h)
  have hown : s.vm.findClass "DealtSecret$Group" = some m.cls := findClass_of_methodNamed B.named
  have hlk := B.notSynchronized
  have hl := lv_entry ([.ref gr, .int (nI x0), .int (nI y0)]) (n := 3) (Nat.le_of_ble_eq_true rfl)
  rw [lg_entry_eq]
  generalize (lg_sl ([.ref gr, .int (nI x0), .int (nI y0)]) ++ List.replicate (3 - (lg_sl ([.ref gr, .int (nI x0), .int (nI y0)])).length) Slot.unset).toArray = ls at hl ⊢
  have hl : lv_has ls 3 [(0, .ref gr), (1, .int (nI x0)), (2, .int (nI y0))] := hl
  have hxy := nz_m31 hx0 hy0
  refine lv_iload_n hx hb d_G_times_0 rfl (lv_at hl 1 rfl) ?_
  refine lv_i2l (v := (lN x0)) hx hb d_G_times_1 (nI_l hx0) ?_
  refine lv_iload_n hx hb d_G_times_2 rfl (lv_at hl 2 rfl) ?_
  refine lv_i2l (v := (lN y0)) hx hb d_G_times_3 (nI_l hy0) ?_
  refine lv_lmul hx hb d_G_times_4 ?_
  refine x_l (y := lN (x0 * y0)) (lN_mul _ _) ?_
  refine lv_aload_n hx hb d_G_times_5 rfl (lv_at hl 0 rfl) ?_
  refine va_get (D := (dC, dI)) (ci := 0) (v := .int (nI q0)) (C := "DealtSecret$Group") (T := T_G) (N := 4) hx hb hts i_G hown hK hP 0 rfl rfl 1 (by decide) (hts _ k_44) (fun _ h9 => h9) rfl d_G_times_6 ?_
  refine lv_i2l (v := (lN q0)) hx hb d_G_times_9 (nI_l hm0) ?_
  refine lv_lrem hx hb d_G_times_10 (nz_lne h1 hm0) ?_
  refine x_l (y := lN (x0 * y0 % q0)) (nz_lrem hxy h1 hm0) ?_
  refine lv_l2i (v := (nI (x0 * y0 % q0))) hx hb d_G_times_11 (lN_i _) ?_
  exact ro_i hx hb hr hlk d_G_times_12 (rfl)
set_option maxRecDepth 100000 in
set_option maxHeartbeats 4000000 in
/-- plus(x, y) -/
theorem c_G_plus (l : Launch) (dC : Nat → ClassId) (dI : Nat → Nat → Nat) (gr p0 q0 g0 h0 : Nat) (x0 y0 : Nat) (hx0 : x0 < 2 ^ 31) (hy0 : y0 < 2 ^ 31) (h1 : 0 < q0) (hm0 : q0 < 2 ^ 31) : Ro l y_G_plus ws_G_plus 0 0 [.ref gr, .int (nI x0), .int (nI y0)] (bG dC dI gr p0 q0 g0 h0) (nI ((x0 + y0) % q0)) := by
  refine Met.ofW (cc := b_G_plus) (maxL := 3) (ret := (some .int)) (by decide) rfl ?_
  intro p e s m args below meth c s₁ B hml hv
  obtain ⟨rfl, hP, hK⟩ := hv
  have hx := B.exec
  have hb := B.bytes
  have hr := B.returns
  have hts : ∀ w ∈ AL, w.before ([.ref gr, .int (nI x0), .int (nI y0)] : List Value).toArray s = true := fun w h => atoms_spec (ws := ws_G_plus) B.pre w (List.mem_cons_of_mem _ h)
  have hown : s.vm.findClass "DealtSecret$Group" = some m.cls := findClass_of_methodNamed B.named
  have hlk := B.notSynchronized
  have hl := lv_entry ([.ref gr, .int (nI x0), .int (nI y0)]) (n := 3) (Nat.le_of_ble_eq_true rfl)
  rw [lg_entry_eq]
  generalize (lg_sl ([.ref gr, .int (nI x0), .int (nI y0)]) ++ List.replicate (3 - (lg_sl ([.ref gr, .int (nI x0), .int (nI y0)])).length) Slot.unset).toArray = ls at hl ⊢
  have hl : lv_has ls 3 [(0, .ref gr), (1, .int (nI x0)), (2, .int (nI y0))] := hl
  refine lv_iload_n hx hb d_G_plus_0 rfl (lv_at hl 1 rfl) ?_
  refine lv_i2l (v := (lN x0)) hx hb d_G_plus_1 (nI_l hx0) ?_
  refine lv_iload_n hx hb d_G_plus_2 rfl (lv_at hl 2 rfl) ?_
  refine lv_i2l (v := (lN y0)) hx hb d_G_plus_3 (nI_l hy0) ?_
  refine lv_ladd hx hb d_G_plus_4 ?_
  refine x_l (y := lN (x0 + y0)) (lN_add _ _) ?_
  refine lv_aload_n hx hb d_G_plus_5 rfl (lv_at hl 0 rfl) ?_
  refine va_get (D := (dC, dI)) (ci := 0) (v := .int (nI q0)) (C := "DealtSecret$Group") (T := T_G) (N := 4) hx hb hts i_G hown hK hP 0 rfl rfl 1 (by decide) (hts _ k_44) (fun _ h9 => h9) rfl d_G_plus_6 ?_
  refine lv_i2l (v := (lN q0)) hx hb d_G_plus_9 (nI_l hm0) ?_
  refine lv_lrem hx hb d_G_plus_10 (nz_lne h1 hm0) ?_
  refine x_l (y := lN ((x0 + y0) % q0)) (nz_lrem (by omega) h1 hm0) ?_
  refine lv_l2i (v := (nI ((x0 + y0) % q0))) hx hb d_G_plus_11 (lN_i _) ?_
  exact ro_i hx hb hr hlk d_G_plus_12 (rfl)
set_option maxRecDepth 100000 in
set_option maxHeartbeats 4000000 in
/-- power(x, e) = x^e modulo p -/
theorem c_G_power (l : Launch) (dC : Nat → ClassId) (dI : Nat → Nat → Nat) (gr p0 q0 g0 h0 : Nat) (x0 e0 : Nat) (hx0 : x0 < 2 ^ 31) (he0 : e0 < 2 ^ 31) (h2 : 2 ≤ p0) (hm0 : p0 < 2 ^ 31) : Ro l y_G_power ws_G_power 1 27 [.ref gr, .int (nI x0), .int (nI e0)] (bG dC dI gr p0 q0 g0 h0) (nI (x0 ^ e0 % p0)) := by
  refine Met.ofW (cc := b_G_power) (maxL := 3) (ret := (some .int)) (by decide) rfl ?_
  intro p e s m args below meth c s₁ B hml hv
  obtain ⟨rfl, hP, hK⟩ := hv
  have hx := B.exec
  have hb := B.bytes
  have hr := B.returns
  have hts : ∀ w ∈ AL, w.before ([.ref gr, .int (nI x0), .int (nI e0)] : List Value).toArray s = true := fun w h => atoms_spec (ws := ws_G_power) B.pre w (List.mem_cons_of_mem _ h)
  have hown : s.vm.findClass "DealtSecret$Group" = some m.cls := findClass_of_methodNamed B.named
  have hlk := B.notSynchronized
  have hl := lv_entry ([.ref gr, .int (nI x0), .int (nI e0)]) (n := 3) (Nat.le_of_ble_eq_true rfl)
  rw [lg_entry_eq]
  generalize (lg_sl ([.ref gr, .int (nI x0), .int (nI e0)]) ++ List.replicate (3 - (lg_sl ([.ref gr, .int (nI x0), .int (nI e0)])).length) Slot.unset).toArray = ls at hl ⊢
  have hl : lv_has ls 3 [(0, .ref gr), (1, .int (nI x0)), (2, .int (nI e0))] := hl
  refine lv_iload_n hx hb d_G_power_0 rfl (lv_at hl 1 rfl) ?_
  refine lv_iload_n hx hb d_G_power_1 rfl (lv_at hl 2 rfl) ?_
  refine lv_aload_n hx hb d_G_power_2 rfl (lv_at hl 0 rfl) ?_
  refine va_get (D := (dC, dI)) (ci := 0) (v := .int (nI p0)) (C := "DealtSecret$Group") (T := T_G) (N := 4) hx hb hts i_G hown hK hP 0 rfl rfl 0 (by decide) (hts _ k_42) (fun _ h9 => h9) rfl d_G_power_3 ?_
  refine ro_S (As := [.int (nI x0), .int (nI e0), .int (nI p0)]) (rest := []) ⟨hx, hb, hml, hown, hts⟩ (c_G_powerModulo l x0 e0 p0 (by omega) (by omega) (by omega) (by omega)) (va_cwS 3 hts (al_S k_30 k_31 k_2 k_32) rfl rfl rfl (by decide +kernel) ⟨Nat.le_of_ble_eq_true rfl, Nat.le_of_ble_eq_true rfl⟩) (fun _ _ _ _ h => h) (fun _ _ _ => trivial) rfl hl.1 rfl (lv_room (Nat.le_of_ble_eq_true rfl)) d_G_power_6 ⟨Nat.zero_le _, Nat.zero_le _⟩ ?_
  exact ro_i hx hb hr hlk d_G_power_9 (rfl)
set_option maxRecDepth 100000 in
set_option maxHeartbeats 4000000 in
/-- commit(u, v) = g^u h^v modulo p -/
theorem c_G_commit (l : Launch) (dC : Nat → ClassId) (dI : Nat → Nat → Nat) (gr p0 q0 g0 h0 : Nat) (u0 v0 : Nat) (hu0 : u0 < 2 ^ 31) (hv0 : v0 < 2 ^ 31) (hg : g0 < p0) (hh : h0 < p0) (h2 : 2 ≤ p0) (hm0 : p0 < 2 ^ 31) : Ro l y_G_commit ws_G_commit 2 49 [.ref gr, .int (nI u0), .int (nI v0)] (bG dC dI gr p0 q0 g0 h0) (nI ((g0 ^ u0 % p0) * (h0 ^ v0 % p0) % p0)) := by
  refine Met.ofW (cc := b_G_commit) (maxL := 3) (ret := (some .int)) (by decide) rfl ?_
  intro p e s m args below meth c s₁ B hml hv
  obtain ⟨rfl, hP, hK⟩ := hv
  have hx := B.exec
  have hb := B.bytes
  have hr := B.returns
  have hts : ∀ w ∈ AL, w.before ([.ref gr, .int (nI u0), .int (nI v0)] : List Value).toArray s = true := fun w h => atoms_spec (ws := ws_G_commit) B.pre w (List.mem_cons_of_mem _ h)
  have hown : s.vm.findClass "DealtSecret$Group" = some m.cls := findClass_of_methodNamed B.named
  have hlk := B.notSynchronized
  have hl := lv_entry ([.ref gr, .int (nI u0), .int (nI v0)]) (n := 3) (Nat.le_of_ble_eq_true rfl)
  rw [lg_entry_eq]
  generalize (lg_sl ([.ref gr, .int (nI u0), .int (nI v0)]) ++ List.replicate (3 - (lg_sl ([.ref gr, .int (nI u0), .int (nI v0)])).length) Slot.unset).toArray = ls at hl ⊢
  have hl : lv_has ls 3 [(0, .ref gr), (1, .int (nI u0)), (2, .int (nI v0))] := hl
  have hgu : g0 ^ u0 % p0 < p0 := Nat.mod_lt _ (by omega)
  have hhv : h0 ^ v0 % p0 < p0 := Nat.mod_lt _ (by omega)
  refine lv_aload_n hx hb d_G_commit_0 rfl (lv_at hl 0 rfl) ?_
  refine lv_aload_n hx hb d_G_commit_1 rfl (lv_at hl 0 rfl) ?_
  refine lv_aload_n hx hb d_G_commit_2 rfl (lv_at hl 0 rfl) ?_
  refine va_get (D := (dC, dI)) (ci := 0) (v := .int (nI g0)) (C := "DealtSecret$Group") (T := T_G) (N := 4) hx hb hts i_G hown hK hP 0 rfl rfl 2 (by decide) (hts _ k_46) (fun _ h9 => h9) rfl d_G_commit_3 ?_
  refine lv_iload_n hx hb d_G_commit_6 rfl (lv_at hl 1 rfl) ?_
  refine ro_V (As := [.int (nI g0), .int (nI u0)]) (rest := [.ref gr]) (b := gr) ⟨hx, hb, hml, hown, hts⟩ (c_G_power l dC dI gr p0 q0 g0 h0 g0 u0 (by omega) (by omega) (by omega) (by omega)) (cwV 2 hts (al_V k_173 k_174 k_175 k_2 k_176) rfl rfl rfl (by decide +kernel) ⟨Nat.le_of_ble_eq_true rfl, Nat.le_of_ble_eq_true rfl⟩) (fun U g mk a h => ⟨h.1, va_K.moved (u := U) (U := U.calling g mk a) (Vm.Alike.refl U.vm) h.2⟩) (va_recv hK hP (ci := 0) (q0 := 0) rfl rfl) (fun U hU hW => ⟨by rw [hU]; exact hP, va_K.moved hW.alike hK⟩) rfl hl.1 rfl (lv_room (Nat.le_of_ble_eq_true rfl)) d_G_commit_7 ⟨Nat.zero_le _, Nat.zero_le _⟩ ?_
  refine lv_aload_n hx hb d_G_commit_10 rfl (lv_at hl 0 rfl) ?_
  refine lv_aload_n hx hb d_G_commit_11 rfl (lv_at hl 0 rfl) ?_
  refine va_get (D := (dC, dI)) (ci := 0) (v := .int (nI h0)) (C := "DealtSecret$Group") (T := T_G) (N := 4) hx hb hts i_G hown hK hP 0 rfl rfl 3 (by decide) (hts _ k_48) (fun _ h9 => h9) rfl d_G_commit_12 ?_
  refine lv_iload_n hx hb d_G_commit_15 rfl (lv_at hl 2 rfl) ?_
  refine ro_V (As := [.int (nI h0), .int (nI v0)]) (rest := [.int (nI (g0 ^ u0 % p0)), .ref gr]) (b := gr) ⟨hx, hb, hml, hown, hts⟩ (c_G_power l dC dI gr p0 q0 g0 h0 h0 v0 (by omega) (by omega) (by omega) (by omega)) (cwV 2 hts (al_V k_173 k_174 k_175 k_2 k_176) rfl rfl rfl (by decide +kernel) ⟨Nat.le_of_ble_eq_true rfl, Nat.le_of_ble_eq_true rfl⟩) (fun U g mk a h => ⟨h.1, va_K.moved (u := U) (U := U.calling g mk a) (Vm.Alike.refl U.vm) h.2⟩) (va_recv hK hP (ci := 0) (q0 := 0) rfl rfl) (fun U hU hW => ⟨by rw [hU]; exact hP, va_K.moved hW.alike hK⟩) rfl hl.1 rfl (lv_room (Nat.le_of_ble_eq_true rfl)) d_G_commit_16 ⟨Nat.zero_le _, Nat.zero_le _⟩ ?_
  refine ro_V (As := [.int (nI (g0 ^ u0 % p0)), .int (nI (h0 ^ v0 % p0))]) (rest := []) (b := gr) ⟨hx, hb, hml, hown, hts⟩ (c_G_product l dC dI gr p0 q0 g0 h0 (g0 ^ u0 % p0) (h0 ^ v0 % p0) (by omega) (by omega) (by omega) (by omega)) (cwV 2 hts (al_V k_177 k_178 k_179 k_2 k_180) rfl rfl rfl (by decide +kernel) ⟨Nat.le_of_ble_eq_true rfl, Nat.le_of_ble_eq_true rfl⟩) (fun U g mk a h => ⟨h.1, va_K.moved (u := U) (U := U.calling g mk a) (Vm.Alike.refl U.vm) h.2⟩) (va_recv hK hP (ci := 0) (q0 := 0) rfl rfl) (fun U hU hW => ⟨by rw [hU]; exact hP, va_K.moved hW.alike hK⟩) rfl hl.1 rfl (lv_room (Nat.le_of_ble_eq_true rfl)) d_G_commit_19 ⟨Nat.zero_le _, Nat.zero_le _⟩ ?_
  exact ro_i hx hb hr hlk d_G_commit_22 (rfl)
set_option maxRecDepth 100000 in
set_option maxHeartbeats 4000000 in
/-- number(x) = x modulo q -/
theorem c_G_number (l : Launch) (dC : Nat → ClassId) (dI : Nat → Nat → Nat) (gr p0 q0 g0 h0 : Nat) (x0 : Int32) (h1 : 0 < q0) (hm0 : q0 < 2 ^ 31) : Ro l y_G_number ws_G_number 1 22 [.ref gr, .int x0] (bG dC dI gr p0 q0 g0 h0) (nI (md x0 q0)) := by
  refine Met.ofW (cc := b_G_number) (maxL := 2) (ret := (some .int)) (by decide) rfl ?_
  intro p e s m args below meth c s₁ B hml hv
  obtain ⟨rfl, hP, hK⟩ := hv
  have hx := B.exec
  have hb := B.bytes
  have hr := B.returns
  have hts : ∀ w ∈ AL, w.before ([.ref gr, .int x0] : List Value).toArray s = true := fun w h => atoms_spec (ws := ws_G_number) B.pre w (List.mem_cons_of_mem _ h)
  have hown : s.vm.findClass "DealtSecret$Group" = some m.cls := findClass_of_methodNamed B.named
  have hlk := B.notSynchronized
  have hl := lv_entry ([.ref gr, .int x0]) (n := 2) (Nat.le_of_ble_eq_true rfl)
  rw [lg_entry_eq]
  generalize (lg_sl ([.ref gr, .int x0]) ++ List.replicate (2 - (lg_sl ([.ref gr, .int x0])).length) Slot.unset).toArray = ls at hl ⊢
  have hl : lv_has ls 2 [(0, .ref gr), (1, .int x0)] := hl
  refine lv_iload_n hx hb d_G_number_0 rfl (lv_at hl 1 rfl) ?_
  refine lv_aload_n hx hb d_G_number_1 rfl (lv_at hl 0 rfl) ?_
  refine va_get (D := (dC, dI)) (ci := 0) (v := .int (nI q0)) (C := "DealtSecret$Group") (T := T_G) (N := 4) hx hb hts i_G hown hK hP 0 rfl rfl 1 (by decide) (hts _ k_44) (fun _ h9 => h9) rfl d_G_number_2 ?_
  refine ro_S (As := [.int x0, .int (nI q0)]) (rest := []) ⟨hx, hb, hml, hown, hts⟩ (c_J_floorMod l x0 q0 h1 hm0) (va_cwS 2 hts (al_S k_292 k_293 k_11 k_294) rfl rfl rfl (by decide +kernel) ⟨Nat.le_of_ble_eq_true rfl, Nat.le_of_ble_eq_true rfl⟩) (fun _ _ _ _ h => h) (fun _ _ _ => trivial) rfl hl.1 rfl (lv_room (Nat.le_of_ble_eq_true rfl)) d_G_number_5 ⟨Nat.zero_le _, Nat.zero_le _⟩ ?_
  exact ro_i hx hb hr hlk d_G_number_8 (rfl)
set_option maxRecDepth 100000 in
set_option maxHeartbeats 4000000 in
/-- minus(x, y) modulo q -/
theorem c_G_minus (l : Launch) (dC : Nat → ClassId) (dI : Nat → Nat → Nat) (gr p0 q0 g0 h0 : Nat) (x0 y0 : Nat) (h1 : 0 < q0) (hm0 : q0 < 2 ^ 31) : Ro l y_G_minus ws_G_minus 2 43 [.ref gr, .int (nI x0), .int (nI y0)] (bG dC dI gr p0 q0 g0 h0) (nI (md (nI x0 - nI y0) q0)) := by
  refine Met.ofW (cc := b_G_minus) (maxL := 3) (ret := (some .int)) (by decide) rfl ?_
  intro p e s m args below meth c s₁ B hml hv
  obtain ⟨rfl, hP, hK⟩ := hv
  have hx := B.exec
  have hb := B.bytes
  have hr := B.returns
  have hts : ∀ w ∈ AL, w.before ([.ref gr, .int (nI x0), .int (nI y0)] : List Value).toArray s = true := fun w h => atoms_spec (ws := ws_G_minus) B.pre w (List.mem_cons_of_mem _ h)
  have hown : s.vm.findClass "DealtSecret$Group" = some m.cls := findClass_of_methodNamed B.named
  have hlk := B.notSynchronized
  have hl := lv_entry ([.ref gr, .int (nI x0), .int (nI y0)]) (n := 3) (Nat.le_of_ble_eq_true rfl)
  rw [lg_entry_eq]
  generalize (lg_sl ([.ref gr, .int (nI x0), .int (nI y0)]) ++ List.replicate (3 - (lg_sl ([.ref gr, .int (nI x0), .int (nI y0)])).length) Slot.unset).toArray = ls at hl ⊢
  have hl : lv_has ls 3 [(0, .ref gr), (1, .int (nI x0)), (2, .int (nI y0))] := hl
  refine lv_aload_n hx hb d_G_minus_0 rfl (lv_at hl 0 rfl) ?_
  refine lv_iload_n hx hb d_G_minus_1 rfl (lv_at hl 1 rfl) ?_
  refine lv_iload_n hx hb d_G_minus_2 rfl (lv_at hl 2 rfl) ?_
  refine lv_isub hx hb d_G_minus_3 ?_
  refine ro_V (As := [.int ((nI x0) - (nI y0))]) (rest := []) (b := gr) ⟨hx, hb, hml, hown, hts⟩ (c_G_number l dC dI gr p0 q0 g0 h0 (nI x0 - nI y0) h1 hm0) (cwV 1 hts (al_V k_396 k_289 k_290 k_2 k_291) rfl rfl rfl (by decide +kernel) ⟨Nat.le_of_ble_eq_true rfl, Nat.le_of_ble_eq_true rfl⟩) (fun U g mk a h => ⟨h.1, va_K.moved (u := U) (U := U.calling g mk a) (Vm.Alike.refl U.vm) h.2⟩) (va_recv hK hP (ci := 0) (q0 := 0) rfl rfl) (fun U hU hW => ⟨by rw [hU]; exact hP, va_K.moved hW.alike hK⟩) rfl hl.1 rfl (lv_room (Nat.le_of_ble_eq_true rfl)) d_G_minus_4 ⟨Nat.zero_le _, Nat.zero_le _⟩ ?_
  exact ro_i hx hb hr hlk d_G_minus_7 (rfl)
set_option maxRecDepth 100000 in
set_option maxHeartbeats 4000000 in
/-- quotient(x, y) = x y^(q-2) modulo q -/
theorem c_G_quotient (l : Launch) (dC : Nat → ClassId) (dI : Nat → Nat → Nat) (gr p0 q0 g0 h0 : Nat) (x0 y0 : Nat) (hx0 : x0 < 2 ^ 31) (hy0 : y0 < 2 ^ 31) (h2 : 2 ≤ q0) (hm0 : q0 < 2 ^ 31) : Ro l y_G_quotient ws_G_quotient 1 27 [.ref gr, .int (nI x0), .int (nI y0)] (bG dC dI gr p0 q0 g0 h0) (nI (x0 * (y0 ^ (q0 - 2) % q0) % q0)) := by
  refine Met.ofW (cc := b_G_quotient) (maxL := 3) (ret := (some .int)) (by decide) rfl ?_
  intro p e s m args below meth c s₁ B hml hv
  obtain ⟨rfl, hP, hK⟩ := hv
  have hx := B.exec
  have hb := B.bytes
  have hr := B.returns
  have hts : ∀ w ∈ AL, w.before ([.ref gr, .int (nI x0), .int (nI y0)] : List Value).toArray s = true := fun w h => atoms_spec (ws := ws_G_quotient) B.pre w (List.mem_cons_of_mem _ h)
  have hown : s.vm.findClass "DealtSecret$Group" = some m.cls := findClass_of_methodNamed B.named
  have hlk := B.notSynchronized
  have hl := lv_entry ([.ref gr, .int (nI x0), .int (nI y0)]) (n := 3) (Nat.le_of_ble_eq_true rfl)
  rw [lg_entry_eq]
  generalize (lg_sl ([.ref gr, .int (nI x0), .int (nI y0)]) ++ List.replicate (3 - (lg_sl ([.ref gr, .int (nI x0), .int (nI y0)])).length) Slot.unset).toArray = ls at hl ⊢
  have hl : lv_has ls 3 [(0, .ref gr), (1, .int (nI x0)), (2, .int (nI y0))] := hl
  have hyq : y0 ^ (q0 - 2) % q0 < q0 := Nat.mod_lt _ (by omega)
  refine lv_aload_n hx hb d_G_quotient_0 rfl (lv_at hl 0 rfl) ?_
  refine lv_iload_n hx hb d_G_quotient_1 rfl (lv_at hl 1 rfl) ?_
  refine lv_iload_n hx hb d_G_quotient_2 rfl (lv_at hl 2 rfl) ?_
  refine lv_aload_n hx hb d_G_quotient_3 rfl (lv_at hl 0 rfl) ?_
  refine va_get (D := (dC, dI)) (ci := 0) (v := .int (nI q0)) (C := "DealtSecret$Group") (T := T_G) (N := 4) hx hb hts i_G hown hK hP 0 rfl rfl 1 (by decide) (hts _ k_44) (fun _ h9 => h9) rfl d_G_quotient_4 ?_
  refine lv_iconst (v := (nI 2)) hx hb d_G_quotient_7 (by decide) ?_
  refine lv_isub hx hb d_G_quotient_8 ?_
  refine x_i (y := nI (q0 - 2)) (pk_sub (by omega)) ?_
  refine lv_aload_n hx hb d_G_quotient_9 rfl (lv_at hl 0 rfl) ?_
  refine va_get (D := (dC, dI)) (ci := 0) (v := .int (nI q0)) (C := "DealtSecret$Group") (T := T_G) (N := 4) hx hb hts i_G hown hK hP 0 rfl rfl 1 (by decide) (hts _ k_44) (fun _ h9 => h9) rfl d_G_quotient_10 ?_
  refine ro_S (As := [.int (nI y0), .int (nI (q0 - 2)), .int (nI q0)]) (rest := [.int (nI x0), .ref gr]) ⟨hx, hb, hml, hown, hts⟩ (c_G_powerModulo l y0 (q0 - 2) q0 (by omega) (by omega) (by omega) (by omega)) (va_cwS 3 hts (al_S k_30 k_31 k_2 k_32) rfl rfl rfl (by decide +kernel) ⟨Nat.le_of_ble_eq_true rfl, Nat.le_of_ble_eq_true rfl⟩) (fun _ _ _ _ h => h) (fun _ _ _ => trivial) rfl hl.1 rfl (lv_room (Nat.le_of_ble_eq_true rfl)) d_G_quotient_13 ⟨Nat.zero_le _, Nat.zero_le _⟩ ?_
  refine ro_V (As := [.int (nI x0), .int (nI (y0 ^ (q0 - 2) % q0))]) (rest := []) (b := gr) ⟨hx, hb, hml, hown, hts⟩ (c_G_times l dC dI gr p0 q0 g0 h0 x0 (y0 ^ (q0 - 2) % q0) (by omega) (by omega) (by omega) (by omega)) (cwV 2 hts (al_V k_401 k_314 k_315 k_2 k_316) rfl rfl rfl (by decide +kernel) ⟨Nat.le_of_ble_eq_true rfl, Nat.le_of_ble_eq_true rfl⟩) (fun U g mk a h => ⟨h.1, va_K.moved (u := U) (U := U.calling g mk a) (Vm.Alike.refl U.vm) h.2⟩) (va_recv hK hP (ci := 0) (q0 := 0) rfl rfl) (fun U hU hW => ⟨by rw [hU]; exact hP, va_K.moved hW.alike hK⟩) rfl hl.1 rfl (lv_room (Nat.le_of_ble_eq_true rfl)) d_G_quotient_16 ⟨Nat.zero_le _, Nat.zero_le _⟩ ?_
  exact ro_i hx hb hr hlk d_G_quotient_19 (rfl)
end
section
set_option maxRecDepth 100000 in
set_option maxHeartbeats 4000000 in
/-- reduced(x) = x modulo q -/
theorem c_M_reduced (l : Launch) (dC : Nat → ClassId) (dI : Nat → Nat → Nat) (Y : Nat → Nat) (cI cZ : ClassId) (p0 q0 g0 h0 : Nat) (S : Nat → Nat → Int32) (x0 : Int32) (ok : okG p0 q0 g0 h0) : Ro l y_M_reduced ws_M_reduced 0 0 [.ref (Y 0), .int x0] (bM dC dI Y cI cZ p0 q0 g0 h0 S) (nI (md x0 q0)) := by
  refine Met.ofW (cc := b_M_reduced) (maxL := 3) (ret := (some .int)) (by decide) rfl ?_
  intro p e s m args below meth c s₁ B hml hv
  obtain ⟨rfl, hP, hK⟩ := hv
  have hx := B.exec
  have hb := B.bytes
  have hr := B.returns
  have hts : ∀ w ∈ AL, w.before ([.ref (Y 0), .int x0] : List Value).toArray s = true := fun w h => atoms_spec (ws := ws_M_reduced) B.pre w (List.mem_cons_of_mem _ h)
  have hown : s.vm.findClass "DealtSecretModel" = some m.cls := findClass_of_methodNamed B.named
  have hlk := B.notSynchronized
  have hl := lv_entry ([.ref (Y 0), .int x0]) (n := 3) (Nat.le_of_ble_eq_true rfl)
  rw [lg_entry_eq]
  generalize (lg_sl ([.ref (Y 0), .int x0]) ++ List.replicate (3 - (lg_sl ([.ref (Y 0), .int x0])).length) Slot.unset).toArray = ls at hl ⊢
  have hl : lv_has ls 3 [(0, .ref (Y 0)), (1, .int x0)] := hl
  obtain ⟨okp2, okp, okq2, okq, okg, okh⟩ := id ok
  have hmd := md_rem (x := x0) (q := q0) (by omega) okq
  refine lv_iload_n hx hb d_M_reduced_0 rfl (lv_at hl 1 rfl) ?_
  refine lv_aload_n hx hb d_M_reduced_1 rfl (lv_at hl 0 rfl) ?_
  refine va_get (D := (dC, dI)) (ci := 3) (v := .int (nI q0)) (C := "DealtSecretModel") (T := T_M) (N := 24) hx hb hts i_M hown hK hP 0 rfl rfl 1 (by decide) (hts _ k_444) (fun _ h9 => h9) rfl d_M_reduced_2 ?_
  refine lv_irem hx hb d_M_reduced_5 (nz_ine (by omega) okq) ?_
  refine lv_istore_n (lv' := [(2, .int (x0 - x0 / (nI q0) * (nI q0))), (0, .ref (Y 0)), (1, .int x0)]) hx hb d_M_reduced_6 rfl hl (by decide) rfl (fun ls hl => ?_)
  refine lv_iload_n hx hb d_M_reduced_7 rfl (lv_at hl 0 rfl) ?_
  refine lv_if_ge (tgt := 20) hx hb d_M_reduced_8 (by decide) (fun c8 => ?_) (fun c8 => ?_)
  · refine lv_iload_n hx hb d_M_reduced_20 rfl (lv_at hl 0 rfl) ?_
    exact ro_i hx hb hr hlk d_M_reduced_21 (hmd.1 (Int32.not_lt.mpr c8))
  · refine lv_iload_n hx hb d_M_reduced_11 rfl (lv_at hl 0 rfl) ?_
    refine lv_aload_n hx hb d_M_reduced_12 rfl (lv_at hl 1 rfl) ?_
    refine va_get (D := (dC, dI)) (ci := 3) (v := .int (nI q0)) (C := "DealtSecretModel") (T := T_M) (N := 24) hx hb hts i_M hown hK hP 0 rfl rfl 1 (by decide) (hts _ k_444) (fun _ h9 => h9) rfl d_M_reduced_13 ?_
    refine lv_iadd hx hb d_M_reduced_16 ?_
    refine lv_goto (tgt := 21) hx hb d_M_reduced_17 (by decide) ?_
    exact ro_i hx hb hr hlk d_M_reduced_21 (hmd.2 (Int32.not_le.mp c8))
set_option maxRecDepth 100000 in
set_option maxHeartbeats 4000000 in
/-- minus(x, y) modulo q -/
theorem c_M_minus (l : Launch) (dC : Nat → ClassId) (dI : Nat → Nat → Nat) (Y : Nat → Nat) (cI cZ : ClassId) (p0 q0 g0 h0 : Nat) (S : Nat → Nat → Int32) (x0 y0 : Nat) (ok : okG p0 q0 g0 h0) (hx0 : x0 < q0) (hy0 : y0 < q0) : Ro l y_M_minus ws_M_minus 0 0 [.ref (Y 0), .int (nI x0), .int (nI y0)] (bM dC dI Y cI cZ p0 q0 g0 h0 S) (nI (md (nI x0 - nI y0) q0)) := by
  refine Met.ofW (cc := b_M_minus) (maxL := 3) (ret := (some .int)) (by decide) rfl ?_
  intro p e s m args below meth c s₁ B hml hv
  obtain ⟨rfl, hP, hK⟩ := hv
  have hx := B.exec
  have hb := B.bytes
  have hr := B.returns
  have hts : ∀ w ∈ AL, w.before ([.ref (Y 0), .int (nI x0), .int (nI y0)] : List Value).toArray s = true := fun w h => atoms_spec (ws := ws_M_minus) B.pre w (List.mem_cons_of_mem _ h)
  have hown : s.vm.findClass "DealtSecretModel" = some m.cls := findClass_of_methodNamed B.named
  have hlk := B.notSynchronized
  have hl := lv_entry ([.ref (Y 0), .int (nI x0), .int (nI y0)]) (n := 3) (Nat.le_of_ble_eq_true rfl)
  rw [lg_entry_eq]
  generalize (lg_sl ([.ref (Y 0), .int (nI x0), .int (nI y0)]) ++ List.replicate (3 - (lg_sl ([.ref (Y 0), .int (nI x0), .int (nI y0)])).length) Slot.unset).toArray = ls at hl ⊢
  have hl : lv_has ls 3 [(0, .ref (Y 0)), (1, .int (nI x0)), (2, .int (nI y0))] := hl
  obtain ⟨okp2, okp, okq2, okq, okg, okh⟩ := id ok
  have hms := md_sub okq hx0 hy0
  refine lv_iload_n hx hb d_M_minus_0 rfl (lv_at hl 1 rfl) ?_
  refine lv_iload_n hx hb d_M_minus_1 rfl (lv_at hl 2 rfl) ?_
  refine lv_icmp_lt (tgt := 11) hx hb d_M_minus_2 (by decide) (fun c2 => ?_) (fun c2 => ?_)
  · have hlt : x0 < y0 := (nI_ltI (by omega) (by omega)).mp c2
    rw [if_neg (by omega)] at hms
    refine lv_iload_n hx hb d_M_minus_11 rfl (lv_at hl 1 rfl) ?_
    refine lv_iload_n hx hb d_M_minus_12 rfl (lv_at hl 2 rfl) ?_
    refine lv_isub hx hb d_M_minus_13 ?_
    refine lv_aload_n hx hb d_M_minus_14 rfl (lv_at hl 0 rfl) ?_
    refine va_get (D := (dC, dI)) (ci := 3) (v := .int (nI q0)) (C := "DealtSecretModel") (T := T_M) (N := 24) hx hb hts i_M hown hK hP 0 rfl rfl 1 (by decide) (hts _ k_444) (fun _ h9 => h9) rfl d_M_minus_15 ?_
    refine lv_iadd hx hb d_M_minus_18 ?_
    exact ro_i hx hb hr hlk d_M_minus_19 (hms)
  · have hlt : ¬ x0 < y0 := fun q => c2 (nI_lt q (by omega))
    rw [if_pos (by omega)] at hms
    refine lv_iload_n hx hb d_M_minus_5 rfl (lv_at hl 1 rfl) ?_
    refine lv_iload_n hx hb d_M_minus_6 rfl (lv_at hl 2 rfl) ?_
    refine lv_isub hx hb d_M_minus_7 ?_
    refine lv_goto (tgt := 19) hx hb d_M_minus_8 (by decide) ?_
    exact ro_i hx hb hr hlk d_M_minus_19 (hms)
set_option maxRecDepth 100000 in
set_option maxHeartbeats 4000000 in
/-- over(x, y) = x y^(q-2) modulo q -/
theorem c_M_over (l : Launch) (dC : Nat → ClassId) (dI : Nat → Nat → Nat) (Y : Nat → Nat) (cI cZ : ClassId) (p0 q0 g0 h0 : Nat) (S : Nat → Nat → Int32) (x0 y0 : Nat) (ok : okG p0 q0 g0 h0) (hx0 : x0 < 2 ^ 31) (hy0 : y0 < 2 ^ 31) : Ro l y_M_over ws_M_over 2 47 [.ref (Y 0), .int (nI x0), .int (nI y0)] (bM dC dI Y cI cZ p0 q0 g0 h0 S) (nI (x0 * (y0 ^ (q0 - 2) % q0) % q0)) := by
  refine Met.ofW (cc := b_M_over) (maxL := 3) (ret := (some .int)) (by decide) rfl ?_
  intro p e s m args below meth c s₁ B hml hv
  obtain ⟨rfl, hP, hK⟩ := hv
  have hx := B.exec
  have hb := B.bytes
  have hr := B.returns
  have hts : ∀ w ∈ AL, w.before ([.ref (Y 0), .int (nI x0), .int (nI y0)] : List Value).toArray s = true := fun w h => atoms_spec (ws := ws_M_over) B.pre w (List.mem_cons_of_mem _ h)
  have hown : s.vm.findClass "DealtSecretModel" = some m.cls := findClass_of_methodNamed B.named
  have hlk := B.notSynchronized
  have hl := lv_entry ([.ref (Y 0), .int (nI x0), .int (nI y0)]) (n := 3) (Nat.le_of_ble_eq_true rfl)
  rw [lg_entry_eq]
  generalize (lg_sl ([.ref (Y 0), .int (nI x0), .int (nI y0)]) ++ List.replicate (3 - (lg_sl ([.ref (Y 0), .int (nI x0), .int (nI y0)])).length) Slot.unset).toArray = ls at hl ⊢
  have hl : lv_has ls 3 [(0, .ref (Y 0)), (1, .int (nI x0)), (2, .int (nI y0))] := hl
  obtain ⟨okp2, okp, okq2, okq, okg, okh⟩ := id ok
  have hyq : y0 ^ (q0 - 2) % q0 < q0 := Nat.mod_lt _ (by omega)
  refine lv_iload_n hx hb d_M_over_0 rfl (lv_at hl 1 rfl) ?_
  refine lv_iload_n hx hb d_M_over_1 rfl (lv_at hl 2 rfl) ?_
  refine lv_aload_n hx hb d_M_over_2 rfl (lv_at hl 0 rfl) ?_
  refine va_get (D := (dC, dI)) (ci := 3) (v := .int (nI q0)) (C := "DealtSecretModel") (T := T_M) (N := 24) hx hb hts i_M hown hK hP 0 rfl rfl 1 (by decide) (hts _ k_444) (fun _ h9 => h9) rfl d_M_over_3 ?_
  refine lv_iconst (v := (nI 2)) hx hb d_M_over_6 (by decide) ?_
  refine lv_isub hx hb d_M_over_7 ?_
  refine x_i (y := nI (q0 - 2)) (pk_sub (by omega)) ?_
  refine lv_aload_n hx hb d_M_over_8 rfl (lv_at hl 0 rfl) ?_
  refine va_get (D := (dC, dI)) (ci := 3) (v := .int (nI q0)) (C := "DealtSecretModel") (T := T_M) (N := 24) hx hb hts i_M hown hK hP 0 rfl rfl 1 (by decide) (hts _ k_444) (fun _ h9 => h9) rfl d_M_over_9 ?_
  refine ro_S (As := [.int (nI y0), .int (nI (q0 - 2)), .int (nI q0)]) (rest := [.int (nI x0)]) ⟨hx, hb, hml, hown, hts⟩ (c_M_power l y0 (q0 - 2) q0 (by omega) (by omega) (by omega) (by omega)) (va_cwS 3 hts (al_S k_437 k_438 k_4 k_439) rfl rfl rfl (by decide +kernel) ⟨Nat.le_of_ble_eq_true rfl, Nat.le_of_ble_eq_true rfl⟩) (fun _ _ _ _ h => h) (fun _ _ _ => trivial) rfl hl.1 rfl (lv_room (Nat.le_of_ble_eq_true rfl)) d_M_over_12 ⟨Nat.zero_le _, Nat.zero_le _⟩ ?_
  refine lv_aload_n hx hb d_M_over_15 rfl (lv_at hl 0 rfl) ?_
  refine va_get (D := (dC, dI)) (ci := 3) (v := .int (nI q0)) (C := "DealtSecretModel") (T := T_M) (N := 24) hx hb hts i_M hown hK hP 0 rfl rfl 1 (by decide) (hts _ k_444) (fun _ h9 => h9) rfl d_M_over_16 ?_
  refine ro_S (As := [.int (nI x0), .int (nI (y0 ^ (q0 - 2) % q0)), .int (nI q0)]) (rest := []) ⟨hx, hb, hml, hown, hts⟩ (c_M_times l x0 (y0 ^ (q0 - 2) % q0) q0 (by omega) (by omega) (by omega) (by omega)) (va_cwS 3 hts (al_S k_440 k_441 k_4 k_442) rfl rfl rfl (by decide +kernel) ⟨Nat.le_of_ble_eq_true rfl, Nat.le_of_ble_eq_true rfl⟩) (fun _ _ _ _ h => h) (fun _ _ _ => trivial) rfl hl.1 rfl (lv_room (Nat.le_of_ble_eq_true rfl)) d_M_over_19 ⟨Nat.zero_le _, Nat.zero_le _⟩ ?_
  exact ro_i hx hb hr hlk d_M_over_22 (rfl)
set_option maxRecDepth 100000 in
set_option maxHeartbeats 4000000 in
/-- paired(u, v) = g^u h^v modulo p -/
theorem c_M_paired (l : Launch) (dC : Nat → ClassId) (dI : Nat → Nat → Nat) (Y : Nat → Nat) (cI cZ : ClassId) (p0 q0 g0 h0 : Nat) (S : Nat → Nat → Int32) (u0 v0 : Nat) (ok : okG p0 q0 g0 h0) (hu0 : u0 < 2 ^ 31) (hv0 : v0 < 2 ^ 31) : Ro l y_M_paired ws_M_paired 2 47 [.ref (Y 0), .int (nI u0), .int (nI v0)] (bM dC dI Y cI cZ p0 q0 g0 h0 S) (nI ((g0 ^ u0 % p0) * (h0 ^ v0 % p0) % p0)) := by
  refine Met.ofW (cc := b_M_paired) (maxL := 3) (ret := (some .int)) (by decide) rfl ?_
  intro p e s m args below meth c s₁ B hml hv
  obtain ⟨rfl, hP, hK⟩ := hv
  have hx := B.exec
  have hb := B.bytes
  have hr := B.returns
  have hts : ∀ w ∈ AL, w.before ([.ref (Y 0), .int (nI u0), .int (nI v0)] : List Value).toArray s = true := fun w h => atoms_spec (ws := ws_M_paired) B.pre w (List.mem_cons_of_mem _ h)
  have hown : s.vm.findClass "DealtSecretModel" = some m.cls := findClass_of_methodNamed B.named
  have hlk := B.notSynchronized
  have hl := lv_entry ([.ref (Y 0), .int (nI u0), .int (nI v0)]) (n := 3) (Nat.le_of_ble_eq_true rfl)
  rw [lg_entry_eq]
  generalize (lg_sl ([.ref (Y 0), .int (nI u0), .int (nI v0)]) ++ List.replicate (3 - (lg_sl ([.ref (Y 0), .int (nI u0), .int (nI v0)])).length) Slot.unset).toArray = ls at hl ⊢
  have hl : lv_has ls 3 [(0, .ref (Y 0)), (1, .int (nI u0)), (2, .int (nI v0))] := hl
  obtain ⟨okp2, okp, okq2, okq, okg, okh⟩ := id ok
  have hgu : g0 ^ u0 % p0 < p0 := Nat.mod_lt _ (by omega)
  have hhv : h0 ^ v0 % p0 < p0 := Nat.mod_lt _ (by omega)
  refine lv_aload_n hx hb d_M_paired_0 rfl (lv_at hl 0 rfl) ?_
  refine va_get (D := (dC, dI)) (ci := 3) (v := .int (nI g0)) (C := "DealtSecretModel") (T := T_M) (N := 24) hx hb hts i_M hown hK hP 0 rfl rfl 2 (by decide) (hts _ k_445) (fun _ h9 => h9) rfl d_M_paired_1 ?_
  refine lv_iload_n hx hb d_M_paired_4 rfl (lv_at hl 1 rfl) ?_
  refine lv_aload_n hx hb d_M_paired_5 rfl (lv_at hl 0 rfl) ?_
  refine va_get (D := (dC, dI)) (ci := 3) (v := .int (nI p0)) (C := "DealtSecretModel") (T := T_M) (N := 24) hx hb hts i_M hown hK hP 0 rfl rfl 0 (by decide) (hts _ k_443) (fun _ h9 => h9) rfl d_M_paired_6 ?_
  refine ro_S (As := [.int (nI g0), .int (nI u0), .int (nI p0)]) (rest := []) ⟨hx, hb, hml, hown, hts⟩ (c_M_power l g0 u0 p0 (by omega) (by omega) (by omega) (by omega)) (va_cwS 3 hts (al_S k_437 k_438 k_4 k_439) rfl rfl rfl (by decide +kernel) ⟨Nat.le_of_ble_eq_true rfl, Nat.le_of_ble_eq_true rfl⟩) (fun _ _ _ _ h => h) (fun _ _ _ => trivial) rfl hl.1 rfl (lv_room (Nat.le_of_ble_eq_true rfl)) d_M_paired_9 ⟨Nat.zero_le _, Nat.zero_le _⟩ ?_
  refine lv_aload_n hx hb d_M_paired_12 rfl (lv_at hl 0 rfl) ?_
  refine va_get (D := (dC, dI)) (ci := 3) (v := .int (nI h0)) (C := "DealtSecretModel") (T := T_M) (N := 24) hx hb hts i_M hown hK hP 0 rfl rfl 3 (by decide) (hts _ k_446) (fun _ h9 => h9) rfl d_M_paired_13 ?_
  refine lv_iload_n hx hb d_M_paired_16 rfl (lv_at hl 2 rfl) ?_
  refine lv_aload_n hx hb d_M_paired_17 rfl (lv_at hl 0 rfl) ?_
  refine va_get (D := (dC, dI)) (ci := 3) (v := .int (nI p0)) (C := "DealtSecretModel") (T := T_M) (N := 24) hx hb hts i_M hown hK hP 0 rfl rfl 0 (by decide) (hts _ k_443) (fun _ h9 => h9) rfl d_M_paired_18 ?_
  refine ro_S (As := [.int (nI h0), .int (nI v0), .int (nI p0)]) (rest := [.int (nI (g0 ^ u0 % p0))]) ⟨hx, hb, hml, hown, hts⟩ (c_M_power l h0 v0 p0 (by omega) (by omega) (by omega) (by omega)) (va_cwS 3 hts (al_S k_437 k_438 k_4 k_439) rfl rfl rfl (by decide +kernel) ⟨Nat.le_of_ble_eq_true rfl, Nat.le_of_ble_eq_true rfl⟩) (fun _ _ _ _ h => h) (fun _ _ _ => trivial) rfl hl.1 rfl (lv_room (Nat.le_of_ble_eq_true rfl)) d_M_paired_21 ⟨Nat.zero_le _, Nat.zero_le _⟩ ?_
  refine lv_aload_n hx hb d_M_paired_24 rfl (lv_at hl 0 rfl) ?_
  refine va_get (D := (dC, dI)) (ci := 3) (v := .int (nI p0)) (C := "DealtSecretModel") (T := T_M) (N := 24) hx hb hts i_M hown hK hP 0 rfl rfl 0 (by decide) (hts _ k_443) (fun _ h9 => h9) rfl d_M_paired_25 ?_
  refine ro_S (As := [.int (nI (g0 ^ u0 % p0)), .int (nI (h0 ^ v0 % p0)), .int (nI p0)]) (rest := []) ⟨hx, hb, hml, hown, hts⟩ (c_M_times l (g0 ^ u0 % p0) (h0 ^ v0 % p0) p0 (by omega) (by omega) (by omega) (by omega)) (va_cwS 3 hts (al_S k_440 k_441 k_4 k_442) rfl rfl rfl (by decide +kernel) ⟨Nat.le_of_ble_eq_true rfl, Nat.le_of_ble_eq_true rfl⟩) (fun _ _ _ _ h => h) (fun _ _ _ => trivial) rfl hl.1 rfl (lv_room (Nat.le_of_ble_eq_true rfl)) d_M_paired_28 ⟨Nat.zero_le _, Nat.zero_le _⟩ ?_
  exact ro_i hx hb hr hlk d_M_paired_31 (rfl)
set_option maxRecDepth 100000 in
set_option maxHeartbeats 4000000 in
/-- isOne(i) -/
theorem c_M_isOne (l : Launch) (dC : Nat → ClassId) (dI : Nat → Nat → Nat) (Y : Nat → Nat) (cI cZ : ClassId) (p0 q0 g0 h0 : Nat) (S : Nat → Nat → Int32) (i0 : Int32) : Ro l y_M_isOne ws_M_isOne 0 0 [.ref (Y 0), .int i0] (bM dC dI Y cI cZ p0 q0 g0 h0 S) (mz_b (isPt (S 0 2) i0)) := by
  refine Met.ofW (cc := b_M_isOne) (maxL := 2) (ret := (some .boolean)) (by decide) rfl ?_
  intro p e s m args below meth c s₁ B hml hv
  obtain ⟨rfl, hP, hK⟩ := hv
  have hx := B.exec
  have hb := B.bytes
  have hr := B.returns
  have hts : ∀ w ∈ AL, w.before ([.ref (Y 0), .int i0] : List Value).toArray s = true := fun w h => atoms_spec (ws := ws_M_isOne) B.pre w (List.mem_cons_of_mem _ h)
  have hown : s.vm.findClass "DealtSecretModel" = some m.cls := findClass_of_methodNamed B.named
  have hlk := B.notSynchronized
  have hl := lv_entry ([.ref (Y 0), .int i0]) (n := 2) (Nat.le_of_ble_eq_true rfl)
  rw [lg_entry_eq]
  generalize (lg_sl ([.ref (Y 0), .int i0]) ++ List.replicate (2 - (lg_sl ([.ref (Y 0), .int i0])).length) Slot.unset).toArray = ls at hl ⊢
  have hl : lv_has ls 2 [(0, .ref (Y 0)), (1, .int i0)] := hl
  refine lv_iload_n hx hb d_M_isOne_0 rfl (lv_at hl 1 rfl) ?_
  refine lv_iconst (v := 1) hx hb d_M_isOne_1 (by decide) ?_
  refine lv_icmp_lt (tgt := 17) hx hb d_M_isOne_2 (by decide) (fun c2 => ?_) (fun c2 => ?_)
  · refine lv_iconst (v := 0) hx hb d_M_isOne_17 (by decide) ?_
    exact ro_z hx hb hr hlk d_M_isOne_18 (by first | rfl | exact mz_bn _) ((mz_bf fun q => by first | exact q.1 c2 | exact q.2 c10).symm)
  · refine lv_iload_n hx hb d_M_isOne_5 rfl (lv_at hl 1 rfl) ?_
    refine lv_aload_n hx hb d_M_isOne_6 rfl (lv_at hl 0 rfl) ?_
    refine va_get (D := (dC, dI)) (ci := 3) (v := .int (S 0 2)) (C := "DealtSecretModel") (T := T_M) (N := 24) hx hb hts i_M hown hK hP 0 rfl rfl 6 (by decide) (hts _ k_449) (fun _ h9 => h9) rfl d_M_isOne_7 ?_
    refine lv_icmp_gt (tgt := 17) hx hb d_M_isOne_10 (by decide) (fun c10 => ?_) (fun c10 => ?_)
    · refine lv_iconst (v := 0) hx hb d_M_isOne_17 (by decide) ?_
      exact ro_z hx hb hr hlk d_M_isOne_18 (by first | rfl | exact mz_bn _) ((mz_bf fun q => by first | exact q.1 c2 | exact q.2 c10).symm)
    · refine lv_iconst (v := 1) hx hb d_M_isOne_13 (by decide) ?_
      refine lv_goto (tgt := 18) hx hb d_M_isOne_14 (by decide) ?_
      exact ro_z hx hb hr hlk d_M_isOne_18 (by first | rfl | exact mz_bn _) ((mz_bt ⟨c2, c10⟩).symm)
set_option maxRecDepth 100000 in
set_option maxHeartbeats 4000000 in
/-- fit(i, u, v) -/
theorem c_M_fit (l : Launch) (dC : Nat → ClassId) (dI : Nat → Nat → Nat) (Y : Nat → Nat) (cI cZ : ClassId) (p0 q0 g0 h0 : Nat) (S : Nat → Nat → Int32) (i0 u0 v0 t0 : Nat) (ok : okG p0 q0 g0 h0) (hi0 : i0 ≤ 7) (hu0 : u0 < 2 ^ 31) (hv0 : v0 < 2 ^ 31) (ht : S 0 3 = nI t0) (ht7 : t0 ≤ 7) (hC : ∀ k, k < t0 → okN (S 3 k) p0) : Ro l y_M_fit ws_M_fit 3 69 [.ref (Y 0), .int (nI i0), .int (nI u0), .int (nI v0)] (bM dC dI Y cI cZ p0 q0 g0 h0 S) (mz_b ((g0 ^ u0 % p0) * (h0 ^ v0 % p0) % p0 = mz_cs (fun k => nn (S 3 k)) i0 t0 % p0)) := by
  refine Met.ofW (cc := b_M_fit) (maxL := 7) (ret := (some .boolean)) (by decide) rfl ?_
  intro p e s m args below meth c s₁ B hml hv
  obtain ⟨rfl, hP, hK⟩ := hv
  have hx := B.exec
  have hb := B.bytes
  have hr := B.returns
  have hts : ∀ w ∈ AL, w.before ([.ref (Y 0), .int (nI i0), .int (nI u0), .int (nI v0)] : List Value).toArray s = true := fun w h => atoms_spec (ws := ws_M_fit) B.pre w (List.mem_cons_of_mem _ h)
  have hown : s.vm.findClass "DealtSecretModel" = some m.cls := findClass_of_methodNamed B.named
  have hlk := B.notSynchronized
  have hl := lv_entry ([.ref (Y 0), .int (nI i0), .int (nI u0), .int (nI v0)]) (n := 7) (Nat.le_of_ble_eq_true rfl)
  rw [lg_entry_eq]
  generalize (lg_sl ([.ref (Y 0), .int (nI i0), .int (nI u0), .int (nI v0)]) ++ List.replicate (7 - (lg_sl ([.ref (Y 0), .int (nI i0), .int (nI u0), .int (nI v0)])).length) Slot.unset).toArray = ls at hl ⊢
  have hl : lv_has ls 7 [(0, .ref (Y 0)), (1, .int (nI i0)), (2, .int (nI u0)), (3, .int (nI v0))] := hl
  obtain ⟨okp2, okp, okq2, okq, okg, okh⟩ := id ok
  have loop : ∀ (n k w0 : Nat) (ls : Array Slot), t0 + 1 ≤ k + n → k ≤ t0 → w0 = mz_cs (fun k => nn (S 3 k)) i0 k % p0 → lv_has ls 7 [(0, .ref (Y 0)), (1, .int (nI i0)), (2, .int (nI u0)), (3, .int (nI v0)), (4, .int (nI w0)), (5, .int (nI (i0 ^ k))), (6, .int (nI k))] → W p l e (headSpec ws_M_fit { frames := 3, cells := 0, slots := 0, locals := 69 }).room s m [.ref (Y 0), .int (nI i0), .int (nI u0), .int (nI v0)].toArray below meth c s.heap [] 0 0 (MQ below (QcRead (mz_b ((g0 ^ u0 % p0) * (h0 ^ v0 % p0) % p0 = mz_cs (fun k => nn (S 3 k)) i0 t0 % p0))) [.ref (Y 0), .int (nI i0), .int (nI u0), .int (nI v0)].toArray s 0 0 (fun _ => False)) (F0 m 9 ls []) := by
    intro n
    induction n with
    | zero =>
      intro k w0 ls h1 h2
      omega
    | succ n ih =>
      intro k w0 ls h1 h2 hw hl
      have hwp : w0 < p0 := by rw [hw]; exact Nat.mod_lt _ (by omega)
      have hik : i0 ^ k ≤ 823543 := Nat.le_trans (Nat.pow_le_pow_left hi0 k) (Nat.le_trans (Nat.pow_le_pow_right (by omega) (Nat.le_trans h2 ht7)) (by decide))
      refine lv_iload hx hb d_M_fit_9 (lv_at hl 6 rfl) ?_
      refine lv_aload_n hx hb d_M_fit_11 rfl (lv_at hl 0 rfl) ?_
      refine va_get (D := (dC, dI)) (ci := 3) (v := .int (S 0 3)) (C := "DealtSecretModel") (T := T_M) (N := 24) hx hb hts i_M hown hK hP 0 rfl rfl 7 (by decide) (hts _ k_450) (fun _ h9 => h9) rfl d_M_fit_12 ?_
      refine x_i (y := nI t0) (ht) ?_
      refine lv_icmp_ge (tgt := 57) hx hb d_M_fit_15 (by decide) (fun c15 => ?_) (fun c15 => ?_)
      · have hk : k = t0 := by
          rcases Nat.lt_or_ge k t0 with q | q
          · exact absurd c15 (nI_ge q (by omega))
          · omega
        subst hk
        refine lv_aload_n hx hb d_M_fit_57 rfl (lv_at hl 0 rfl) ?_
        refine lv_iload_n hx hb d_M_fit_58 rfl (lv_at hl 2 rfl) ?_
        refine lv_iload_n hx hb d_M_fit_59 rfl (lv_at hl 3 rfl) ?_
        refine ro_V (As := [.int (nI u0), .int (nI v0)]) (rest := []) (b := (Y 0)) ⟨hx, hb, hml, hown, hts⟩ (c_M_paired l dC dI Y cI cZ p0 q0 g0 h0 S u0 v0 ok hu0 hv0) (cwV 2 hts (al_V k_545 k_546 k_652 k_4 k_547) rfl rfl rfl (by decide +kernel) ⟨Nat.le_of_ble_eq_true rfl, Nat.le_of_ble_eq_true rfl⟩) (fun U g mk a h => ⟨h.1, va_K.moved (u := U) (U := U.calling g mk a) (Vm.Alike.refl U.vm) h.2⟩) (va_recv hK hP (ci := 3) (q0 := 0) rfl rfl) (fun U hU hW => ⟨by rw [hU]; exact hP, va_K.moved hW.alike hK⟩) rfl hl.1 rfl (lv_room (Nat.le_of_ble_eq_true rfl)) d_M_fit_60 ⟨Nat.zero_le _, Nat.zero_le _⟩ ?_
        refine lv_iload hx hb d_M_fit_63 (lv_at hl 4 rfl) ?_
        refine lv_icmp_ne (tgt := 72) hx hb d_M_fit_65 (by decide) (fun c65 => ?_) (fun c65 => ?_)
        · have hne : ¬ (g0 ^ u0 % p0) * (h0 ^ v0 % p0) % p0 = w0 := fun q => c65 (by rw [q])
          refine lv_iconst (v := 0) hx hb d_M_fit_72 (by decide) ?_
          exact ro_z hx hb hr hlk d_M_fit_73 (by first | rfl | exact mz_bn _) ((mz_bf (by rw [← hw]; exact hne)).symm)
        · have heq : (g0 ^ u0 % p0) * (h0 ^ v0 % p0) % p0 = w0 := (nI_eq (Nat.lt_trans (Nat.mod_lt _ (by omega)) okp) (by omega)).mp c65
          refine lv_iconst (v := 1) hx hb d_M_fit_68 (by decide) ?_
          refine lv_goto (tgt := 73) hx hb d_M_fit_69 (by decide) ?_
          exact ro_z hx hb hr hlk d_M_fit_73 (by first | rfl | exact mz_bn _) ((mz_bt (by rw [← hw]; exact heq)).symm)
      · have hk : k < t0 := by
          rcases Nat.lt_or_ge k t0 with q | q
          · exact q
          · exact absurd (nI_le q (by omega)) c15
        have hck := hC k hk
        have hckl := hck.lt
        have hce : nn (S 3 k) ^ (i0 ^ k) % p0 < p0 := Nat.mod_lt _ (by omega)
        refine lv_iload hx hb d_M_fit_18 (lv_at hl 4 rfl) ?_
        refine lv_aload_n hx hb d_M_fit_20 rfl (lv_at hl 0 rfl) ?_
        refine va_get (D := (dC, dI)) (ci := 3) (v := .ref (Y 3)) (C := "DealtSecretModel") (T := T_M) (N := 24) hx hb hts i_M hown hK hP 0 rfl rfl 11 (by decide) (hts _ k_454) (fun _ h9 => h9) rfl d_M_fit_21 ?_
        refine lv_iload hx hb d_M_fit_24 (lv_at hl 6 rfl) ?_
        refine va_iald hx hb hK hP 3 0 rfl rfl (vp_in_nI (by omega) (by decide)) d_M_fit_26 ?_
        refine x_i (y := S 3 k) (by rw [nI_clamp (by omega)]) ?_
        refine x_i (y := nI (nn (S 3 k))) (hck.eq) ?_
        refine lv_iload hx hb d_M_fit_27 (lv_at hl 5 rfl) ?_
        refine lv_aload_n hx hb d_M_fit_29 rfl (lv_at hl 0 rfl) ?_
        refine va_get (D := (dC, dI)) (ci := 3) (v := .int (nI p0)) (C := "DealtSecretModel") (T := T_M) (N := 24) hx hb hts i_M hown hK hP 0 rfl rfl 0 (by decide) (hts _ k_443) (fun _ h9 => h9) rfl d_M_fit_30 ?_
        refine ro_S (As := [.int (nI (nn (S 3 k))), .int (nI (i0 ^ k)), .int (nI p0)]) (rest := [.int (nI w0)]) ⟨hx, hb, hml, hown, hts⟩ (c_M_power l (nn (S 3 k)) (i0 ^ k) p0 (by omega) (by omega) (by omega) okp) (va_cwS 3 hts (al_S k_437 k_438 k_4 k_439) rfl rfl rfl (by decide +kernel) ⟨Nat.le_of_ble_eq_true rfl, Nat.le_of_ble_eq_true rfl⟩) (fun _ _ _ _ h => h) (fun _ _ _ => trivial) rfl hl.1 rfl (lv_room (Nat.le_of_ble_eq_true rfl)) d_M_fit_33 ⟨Nat.zero_le _, Nat.zero_le _⟩ ?_
        refine lv_aload_n hx hb d_M_fit_36 rfl (lv_at hl 0 rfl) ?_
        refine va_get (D := (dC, dI)) (ci := 3) (v := .int (nI p0)) (C := "DealtSecretModel") (T := T_M) (N := 24) hx hb hts i_M hown hK hP 0 rfl rfl 0 (by decide) (hts _ k_443) (fun _ h9 => h9) rfl d_M_fit_37 ?_
        refine ro_S (As := [.int (nI w0), .int (nI (nn (S 3 k) ^ (i0 ^ k) % p0)), .int (nI p0)]) (rest := []) ⟨hx, hb, hml, hown, hts⟩ (c_M_times l w0 (nn (S 3 k) ^ (i0 ^ k) % p0) p0 (by omega) (by omega) (by omega) okp) (va_cwS 3 hts (al_S k_440 k_441 k_4 k_442) rfl rfl rfl (by decide +kernel) ⟨Nat.le_of_ble_eq_true rfl, Nat.le_of_ble_eq_true rfl⟩) (fun _ _ _ _ h => h) (fun _ _ _ => trivial) rfl hl.1 rfl (lv_room (Nat.le_of_ble_eq_true rfl)) d_M_fit_40 ⟨Nat.zero_le _, Nat.zero_le _⟩ ?_
        refine lv_istore (lv' := [(4, .int (nI (w0 * (nn (S 3 k) ^ (i0 ^ k) % p0) % p0))), (0, .ref (Y 0)), (1, .int (nI i0)), (2, .int (nI u0)), (3, .int (nI v0)), (5, .int (nI (i0 ^ k))), (6, .int (nI k))]) hx hb d_M_fit_43 hl (by decide) rfl (fun ls hl => ?_)
        refine lv_iload hx hb d_M_fit_45 (lv_at hl 5 rfl) ?_
        refine lv_iload_n hx hb d_M_fit_47 rfl (lv_at hl 2 rfl) ?_
        refine lv_imul hx hb d_M_fit_48 ?_
        refine x_i (y := nI (i0 ^ (k + 1))) (pk_mul _ _) ?_
        refine lv_istore (lv' := [(5, .int (nI (i0 ^ (k + 1)))), (4, .int (nI (w0 * (nn (S 3 k) ^ (i0 ^ k) % p0) % p0))), (0, .ref (Y 0)), (1, .int (nI i0)), (2, .int (nI u0)), (3, .int (nI v0)), (6, .int (nI k))]) hx hb d_M_fit_49 hl (by decide) rfl (fun ls hl => ?_)
        refine lv_iinc (v := (nI (k + 1))) (lv' := [(6, .int (nI (k + 1))), (5, .int (nI (i0 ^ (k + 1)))), (4, .int (nI (w0 * (nn (S 3 k) ^ (i0 ^ k) % p0) % p0))), (0, .ref (Y 0)), (1, .int (nI i0)), (2, .int (nI u0)), (3, .int (nI v0))]) hx hb d_M_fit_51 hl (k := 6) rfl (nI_1 k) (by decide) rfl (fun ls hl => ?_)
        refine lv_goto (tgt := 9) hx hb d_M_fit_54 (by decide) ?_
        exact ih (k + 1) _ ls (by omega) (by omega) (by rw [hw, ← Nat.mul_mod]; rfl) (lv_sub hl [3, 4, 5, 6, 2, 1, 0] rfl)
  refine lv_iconst (v := (nI 1)) hx hb d_M_fit_0 (by decide) ?_
  refine lv_istore (lv' := [(4, .int (nI 1)), (0, .ref (Y 0)), (1, .int (nI i0)), (2, .int (nI u0)), (3, .int (nI v0))]) hx hb d_M_fit_1 hl (by decide) rfl (fun ls hl => ?_)
  refine lv_iconst (v := (nI (i0 ^ 0))) hx hb d_M_fit_3 (by rfl) ?_
  refine lv_istore (lv' := [(5, .int (nI (i0 ^ 0))), (4, .int (nI 1)), (0, .ref (Y 0)), (1, .int (nI i0)), (2, .int (nI u0)), (3, .int (nI v0))]) hx hb d_M_fit_4 hl (by decide) rfl (fun ls hl => ?_)
  refine lv_iconst (v := (nI 0)) hx hb d_M_fit_6 (by decide) ?_
  refine lv_istore (lv' := [(6, .int (nI 0)), (5, .int (nI (i0 ^ 0))), (4, .int (nI 1)), (0, .ref (Y 0)), (1, .int (nI i0)), (2, .int (nI u0)), (3, .int (nI v0))]) hx hb d_M_fit_7 hl (by decide) rfl (fun ls hl => ?_)
  exact loop (t0 + 1) 0 1 ls (by omega) (by omega) (Nat.mod_eq_of_lt (by omega)).symm (lv_sub hl [3, 4, 5, 6, 2, 1, 0] rfl)
set_option maxRecDepth 100000 in
set_option maxHeartbeats 4000000 in
/-- at(a, i) -/
theorem c_M_at_a (l : Launch) (dC : Nat → ClassId) (dI : Nat → Nat → Nat) (Y : Nat → Nat) (cI cZ : ClassId) (p0 q0 g0 h0 : Nat) (S : Nat → Nat → Int32) (i0 t0 : Nat) (ok : okG p0 q0 g0 h0) (hi0 : i0 < 2 ^ 31) (ht : S 0 3 = nI t0) (ht7 : t0 ≤ 7) (hC : ∀ k, k < t0 → okN (S 1 k) q0) : Ro l y_M_at ws_M_at 1 22 [.ref (Y 0), .ref (Y 1), .int (nI i0)] (bM dC dI Y cI cZ p0 q0 g0 h0 S) (nI (mz_ps (fun k => nn (S 1 k)) i0 t0 % q0)) := by
  refine Met.ofW (cc := b_M_at) (maxL := 7) (ret := (some .int)) (by decide) rfl ?_
  intro p e s m args below meth c s₁ B hml hv
  obtain ⟨rfl, hP, hK⟩ := hv
  have hx := B.exec
  have hb := B.bytes
  have hr := B.returns
  have hts : ∀ w ∈ AL, w.before ([.ref (Y 0), .ref (Y 1), .int (nI i0)] : List Value).toArray s = true := fun w h => atoms_spec (ws := ws_M_at) B.pre w (List.mem_cons_of_mem _ h)
  have hown : s.vm.findClass "DealtSecretModel" = some m.cls := findClass_of_methodNamed B.named
  have hlk := B.notSynchronized
  have hl := lv_entry ([.ref (Y 0), .ref (Y 1), .int (nI i0)]) (n := 7) (Nat.le_of_ble_eq_true rfl)
  rw [lg_entry_eq]
  generalize (lg_sl ([.ref (Y 0), .ref (Y 1), .int (nI i0)]) ++ List.replicate (7 - (lg_sl ([.ref (Y 0), .ref (Y 1), .int (nI i0)])).length) Slot.unset).toArray = ls at hl ⊢
  have hl : lv_has ls 7 [(0, .ref (Y 0)), (1, .ref (Y 1)), (2, .int (nI i0))] := hl
  obtain ⟨okp2, okp, okq2, okq, okg, okh⟩ := id ok
  have loop : ∀ (n k s0 f0 : Nat) (ls : Array Slot), t0 + 1 ≤ k + n → k ≤ t0 → s0 = mz_ps (fun k => nn (S 1 k)) i0 k % q0 → f0 = i0 ^ k % q0 → lv_has ls 7 [(0, .ref (Y 0)), (1, .ref (Y 1)), (2, .int (nI i0)), (3, .long (lN s0)), (5, .int (nI f0)), (6, .int (nI k))] → W p l e (headSpec ws_M_at { frames := 1, cells := 0, slots := 0, locals := 22 }).room s m [.ref (Y 0), .ref (Y 1), .int (nI i0)].toArray below meth c s.heap [] 0 0 (MQ below (QcRead (nI (mz_ps (fun k => nn (S 1 k)) i0 t0 % q0))) [.ref (Y 0), .ref (Y 1), .int (nI i0)].toArray s 0 0 (fun _ => False)) (F0 m 13 ls []) := by
    intro n
    induction n with
    | zero =>
      intro k s0 f0 ls h1 h2
      omega
    | succ n ih =>
      intro k s0 f0 ls h1 h2 hs hf hl
      have hsq : s0 < q0 := by rw [hs]; exact Nat.mod_lt _ (by omega)
      have hfq : f0 < q0 := by rw [hf]; exact Nat.mod_lt _ (by omega)
      have hiq : i0 % q0 < q0 := Nat.mod_lt _ (by omega)
      refine lv_iload hx hb d_M_at_13 (lv_at hl 5 rfl) ?_
      refine lv_aload_n hx hb d_M_at_15 rfl (lv_at hl 0 rfl) ?_
      refine va_get (D := (dC, dI)) (ci := 3) (v := .int (S 0 3)) (C := "DealtSecretModel") (T := T_M) (N := 24) hx hb hts i_M hown hK hP 0 rfl rfl 7 (by decide) (hts _ k_450) (fun _ h9 => h9) rfl d_M_at_16 ?_
      refine x_i (y := nI t0) (ht) ?_
      refine lv_icmp_ge (tgt := 68) hx hb d_M_at_19 (by decide) (fun c19 => ?_) (fun c19 => ?_)
      · have hk : k = t0 := by
          rcases Nat.lt_or_ge k t0 with q | q
          · exact absurd c19 (nI_ge q (by omega))
          · omega
        subst hk
        refine lv_lload_n hx hb d_M_at_68 rfl (lv_at hl 3 rfl) ?_
        refine lv_l2i (v := (nI s0)) hx hb d_M_at_69 (lN_i s0) ?_
        exact ro_i hx hb hr hlk d_M_at_70 (by rw [hs])
      · have hk : k < t0 := by
          rcases Nat.lt_or_ge k t0 with q | q
          · exact q
          · exact absurd (nI_le q (by omega)) c19
        have hck := hC k hk
        have hckl := hck.lt
        have hcf : nn (S 1 k) * f0 % q0 < q0 := Nat.mod_lt _ (by omega)
        refine lv_lload_n hx hb d_M_at_22 rfl (lv_at hl 3 rfl) ?_
        refine lv_aload_n hx hb d_M_at_23 rfl (lv_at hl 1 rfl) ?_
        refine lv_iload hx hb d_M_at_24 (lv_at hl 5 rfl) ?_
        refine va_iald hx hb hK hP 1 0 rfl rfl (vp_in_nI (by omega) (by decide)) d_M_at_26 ?_
        refine x_i (y := S 1 k) (by rw [nI_clamp (by omega)]) ?_
        refine x_i (y := nI (nn (S 1 k))) (hck.eq) ?_
        refine lv_iload hx hb d_M_at_27 (lv_at hl 4 rfl) ?_
        refine lv_aload_n hx hb d_M_at_29 rfl (lv_at hl 0 rfl) ?_
        refine va_get (D := (dC, dI)) (ci := 3) (v := .int (nI q0)) (C := "DealtSecretModel") (T := T_M) (N := 24) hx hb hts i_M hown hK hP 0 rfl rfl 1 (by decide) (hts _ k_444) (fun _ h9 => h9) rfl d_M_at_30 ?_
        refine ro_S (As := [.int (nI (nn (S 1 k))), .int (nI f0), .int (nI q0)]) (rest := [.long (lN s0)]) ⟨hx, hb, hml, hown, hts⟩ (c_M_times l (nn (S 1 k)) f0 q0 (by omega) (by omega) (by omega) (by omega)) (va_cwS 3 hts (al_S k_440 k_441 k_4 k_442) rfl rfl rfl (by decide +kernel) ⟨Nat.le_of_ble_eq_true rfl, Nat.le_of_ble_eq_true rfl⟩) (fun _ _ _ _ h => h) (fun _ _ _ => trivial) rfl hl.1 rfl (lv_room (Nat.le_of_ble_eq_true rfl)) d_M_at_33 ⟨Nat.zero_le _, Nat.zero_le _⟩ ?_
        refine lv_i2l (v := (lN (nn (S 1 k) * f0 % q0))) hx hb d_M_at_36 (nI_l (by omega)) ?_
        refine lv_ladd hx hb d_M_at_37 ?_
        refine x_l (y := lN (s0 + nn (S 1 k) * f0 % q0)) (lN_add _ _) ?_
        refine lv_aload_n hx hb d_M_at_38 rfl (lv_at hl 0 rfl) ?_
        refine va_get (D := (dC, dI)) (ci := 3) (v := .int (nI q0)) (C := "DealtSecretModel") (T := T_M) (N := 24) hx hb hts i_M hown hK hP 0 rfl rfl 1 (by decide) (hts _ k_444) (fun _ h9 => h9) rfl d_M_at_39 ?_
        refine lv_i2l (v := (lN q0)) hx hb d_M_at_42 (nI_l okq) ?_
        refine lv_lrem hx hb d_M_at_43 (nz_lne (by omega) okq) ?_
        refine x_l (y := lN ((s0 + nn (S 1 k) * f0 % q0) % q0)) (nz_lrem (by omega) (by omega) okq) ?_
        refine lv_lstore_n (lv' := [(3, .long (lN ((s0 + nn (S 1 k) * f0 % q0) % q0))), (0, .ref (Y 0)), (1, .ref (Y 1)), (2, .int (nI i0)), (5, .int (nI f0)), (6, .int (nI k))]) hx hb d_M_at_44 rfl hl (by decide) rfl (fun ls hl => ?_)
        refine lv_iload hx hb d_M_at_45 (lv_at hl 4 rfl) ?_
        refine lv_iload_n hx hb d_M_at_47 rfl (lv_at hl 3 rfl) ?_
        refine lv_aload_n hx hb d_M_at_48 rfl (lv_at hl 1 rfl) ?_
        refine va_get (D := (dC, dI)) (ci := 3) (v := .int (nI q0)) (C := "DealtSecretModel") (T := T_M) (N := 24) hx hb hts i_M hown hK hP 0 rfl rfl 1 (by decide) (hts _ k_444) (fun _ h9 => h9) rfl d_M_at_49 ?_
        refine lv_irem hx hb d_M_at_52 (nz_ine (by omega) okq) ?_
        refine x_i (y := nI (i0 % q0)) (pk_rem hi0 (by omega) okq) ?_
        refine lv_aload_n hx hb d_M_at_53 rfl (lv_at hl 1 rfl) ?_
        refine va_get (D := (dC, dI)) (ci := 3) (v := .int (nI q0)) (C := "DealtSecretModel") (T := T_M) (N := 24) hx hb hts i_M hown hK hP 0 rfl rfl 1 (by decide) (hts _ k_444) (fun _ h9 => h9) rfl d_M_at_54 ?_
        refine ro_S (As := [.int (nI f0), .int (nI (i0 % q0)), .int (nI q0)]) (rest := []) ⟨hx, hb, hml, hown, hts⟩ (c_M_times l f0 (i0 % q0) q0 (by omega) (by omega) (by omega) (by omega)) (va_cwS 3 hts (al_S k_440 k_441 k_4 k_442) rfl rfl rfl (by decide +kernel) ⟨Nat.le_of_ble_eq_true rfl, Nat.le_of_ble_eq_true rfl⟩) (fun _ _ _ _ h => h) (fun _ _ _ => trivial) rfl hl.1 rfl (lv_room (Nat.le_of_ble_eq_true rfl)) d_M_at_57 ⟨Nat.zero_le _, Nat.zero_le _⟩ ?_
        refine lv_istore (lv' := [(5, .int (nI (f0 * (i0 % q0) % q0))), (3, .long (lN ((s0 + nn (S 1 k) * f0 % q0) % q0))), (0, .ref (Y 0)), (1, .ref (Y 1)), (2, .int (nI i0)), (6, .int (nI k))]) hx hb d_M_at_60 hl (by decide) rfl (fun ls hl => ?_)
        refine lv_iinc (v := (nI (k + 1))) (lv' := [(6, .int (nI (k + 1))), (5, .int (nI (f0 * (i0 % q0) % q0))), (3, .long (lN ((s0 + nn (S 1 k) * f0 % q0) % q0))), (0, .ref (Y 0)), (1, .ref (Y 1)), (2, .int (nI i0))]) hx hb d_M_at_62 hl (k := 5) rfl (nI_1 k) (by decide) rfl (fun ls hl => ?_)
        refine lv_goto (tgt := 13) hx hb d_M_at_65 (by decide) ?_
        exact ih (k + 1) _ _ ls (by omega) (by omega) (by rw [hs, hf, mz_sumturn]; rfl) (by rw [hf, Nat.pow_succ, ← Nat.mul_mod]) (lv_sub hl [3, 4, 5, 2, 1, 0] rfl)
  refine lv_lconst (v := (lN 0)) hx hb d_M_at_0 (by decide) ?_
  refine lv_lstore_n (lv' := [(3, .long (lN 0)), (0, .ref (Y 0)), (1, .ref (Y 1)), (2, .int (nI i0))]) hx hb d_M_at_1 rfl hl (by decide) rfl (fun ls hl => ?_)
  refine lv_iconst (v := (nI 1)) hx hb d_M_at_2 (by decide) ?_
  refine lv_aload_n hx hb d_M_at_3 rfl (lv_at hl 1 rfl) ?_
  refine va_get (D := (dC, dI)) (ci := 3) (v := .int (nI q0)) (C := "DealtSecretModel") (T := T_M) (N := 24) hx hb hts i_M hown hK hP 0 rfl rfl 1 (by decide) (hts _ k_444) (fun _ h9 => h9) rfl d_M_at_4 ?_
  refine lv_irem hx hb d_M_at_7 (nz_ine (by omega) okq) ?_
  refine x_i (y := nI (1 % q0)) (pk_rem (by omega) (by omega) okq) ?_
  refine lv_istore (lv' := [(5, .int (nI (1 % q0))), (3, .long (lN 0)), (0, .ref (Y 0)), (1, .ref (Y 1)), (2, .int (nI i0))]) hx hb d_M_at_8 hl (by decide) rfl (fun ls hl => ?_)
  refine lv_iconst (v := (nI 0)) hx hb d_M_at_10 (by decide) ?_
  refine lv_istore (lv' := [(6, .int (nI 0)), (5, .int (nI (1 % q0))), (3, .long (lN 0)), (0, .ref (Y 0)), (1, .ref (Y 1)), (2, .int (nI i0))]) hx hb d_M_at_11 hl (by decide) rfl (fun ls hl => ?_)
  exact loop (t0 + 1) 0 0 (1 % q0) ls (by omega) (by omega) (Nat.zero_mod _).symm rfl (lv_sub hl [3, 4, 5, 2, 1, 0] rfl)
set_option maxRecDepth 100000 in
set_option maxHeartbeats 4000000 in
/-- at(b, i) -/
theorem c_M_at_b (l : Launch) (dC : Nat → ClassId) (dI : Nat → Nat → Nat) (Y : Nat → Nat) (cI cZ : ClassId) (p0 q0 g0 h0 : Nat) (S : Nat → Nat → Int32) (i0 t0 : Nat) (ok : okG p0 q0 g0 h0) (hi0 : i0 < 2 ^ 31) (ht : S 0 3 = nI t0) (ht7 : t0 ≤ 7) (hC : ∀ k, k < t0 → okN (S 2 k) q0) : Ro l y_M_at ws_M_at 1 22 [.ref (Y 0), .ref (Y 2), .int (nI i0)] (bM dC dI Y cI cZ p0 q0 g0 h0 S) (nI (mz_ps (fun k => nn (S 2 k)) i0 t0 % q0)) := by
  refine Met.ofW (cc := b_M_at) (maxL := 7) (ret := (some .int)) (by decide) rfl ?_
  intro p e s m args below meth c s₁ B hml hv
  obtain ⟨rfl, hP, hK⟩ := hv
  have hx := B.exec
  have hb := B.bytes
  have hr := B.returns
  have hts : ∀ w ∈ AL, w.before ([.ref (Y 0), .ref (Y 2), .int (nI i0)] : List Value).toArray s = true := fun w h => atoms_spec (ws := ws_M_at) B.pre w (List.mem_cons_of_mem _ h)
  have hown : s.vm.findClass "DealtSecretModel" = some m.cls := findClass_of_methodNamed B.named
  have hlk := B.notSynchronized
  have hl := lv_entry ([.ref (Y 0), .ref (Y 2), .int (nI i0)]) (n := 7) (Nat.le_of_ble_eq_true rfl)
  rw [lg_entry_eq]
  generalize (lg_sl ([.ref (Y 0), .ref (Y 2), .int (nI i0)]) ++ List.replicate (7 - (lg_sl ([.ref (Y 0), .ref (Y 2), .int (nI i0)])).length) Slot.unset).toArray = ls at hl ⊢
  have hl : lv_has ls 7 [(0, .ref (Y 0)), (1, .ref (Y 2)), (2, .int (nI i0))] := hl
  obtain ⟨okp2, okp, okq2, okq, okg, okh⟩ := id ok
  have loop : ∀ (n k s0 f0 : Nat) (ls : Array Slot), t0 + 1 ≤ k + n → k ≤ t0 → s0 = mz_ps (fun k => nn (S 2 k)) i0 k % q0 → f0 = i0 ^ k % q0 → lv_has ls 7 [(0, .ref (Y 0)), (1, .ref (Y 2)), (2, .int (nI i0)), (3, .long (lN s0)), (5, .int (nI f0)), (6, .int (nI k))] → W p l e (headSpec ws_M_at { frames := 1, cells := 0, slots := 0, locals := 22 }).room s m [.ref (Y 0), .ref (Y 2), .int (nI i0)].toArray below meth c s.heap [] 0 0 (MQ below (QcRead (nI (mz_ps (fun k => nn (S 2 k)) i0 t0 % q0))) [.ref (Y 0), .ref (Y 2), .int (nI i0)].toArray s 0 0 (fun _ => False)) (F0 m 13 ls []) := by
    intro n
    induction n with
    | zero =>
      intro k s0 f0 ls h1 h2
      omega
    | succ n ih =>
      intro k s0 f0 ls h1 h2 hs hf hl
      have hsq : s0 < q0 := by rw [hs]; exact Nat.mod_lt _ (by omega)
      have hfq : f0 < q0 := by rw [hf]; exact Nat.mod_lt _ (by omega)
      have hiq : i0 % q0 < q0 := Nat.mod_lt _ (by omega)
      refine lv_iload hx hb d_M_at_13 (lv_at hl 5 rfl) ?_
      refine lv_aload_n hx hb d_M_at_15 rfl (lv_at hl 0 rfl) ?_
      refine va_get (D := (dC, dI)) (ci := 3) (v := .int (S 0 3)) (C := "DealtSecretModel") (T := T_M) (N := 24) hx hb hts i_M hown hK hP 0 rfl rfl 7 (by decide) (hts _ k_450) (fun _ h9 => h9) rfl d_M_at_16 ?_
      refine x_i (y := nI t0) (ht) ?_
      refine lv_icmp_ge (tgt := 68) hx hb d_M_at_19 (by decide) (fun c19 => ?_) (fun c19 => ?_)
      · have hk : k = t0 := by
          rcases Nat.lt_or_ge k t0 with q | q
          · exact absurd c19 (nI_ge q (by omega))
          · omega
        subst hk
        refine lv_lload_n hx hb d_M_at_68 rfl (lv_at hl 3 rfl) ?_
        refine lv_l2i (v := (nI s0)) hx hb d_M_at_69 (lN_i s0) ?_
        exact ro_i hx hb hr hlk d_M_at_70 (by rw [hs])
      · have hk : k < t0 := by
          rcases Nat.lt_or_ge k t0 with q | q
          · exact q
          · exact absurd (nI_le q (by omega)) c19
        have hck := hC k hk
        have hckl := hck.lt
        have hcf : nn (S 2 k) * f0 % q0 < q0 := Nat.mod_lt _ (by omega)
        refine lv_lload_n hx hb d_M_at_22 rfl (lv_at hl 3 rfl) ?_
        refine lv_aload_n hx hb d_M_at_23 rfl (lv_at hl 1 rfl) ?_
        refine lv_iload hx hb d_M_at_24 (lv_at hl 5 rfl) ?_
        refine va_iald hx hb hK hP 2 0 rfl rfl (vp_in_nI (by omega) (by decide)) d_M_at_26 ?_
        refine x_i (y := S 2 k) (by rw [nI_clamp (by omega)]) ?_
        refine x_i (y := nI (nn (S 2 k))) (hck.eq) ?_
        refine lv_iload hx hb d_M_at_27 (lv_at hl 4 rfl) ?_
        refine lv_aload_n hx hb d_M_at_29 rfl (lv_at hl 0 rfl) ?_
        refine va_get (D := (dC, dI)) (ci := 3) (v := .int (nI q0)) (C := "DealtSecretModel") (T := T_M) (N := 24) hx hb hts i_M hown hK hP 0 rfl rfl 1 (by decide) (hts _ k_444) (fun _ h9 => h9) rfl d_M_at_30 ?_
        refine ro_S (As := [.int (nI (nn (S 2 k))), .int (nI f0), .int (nI q0)]) (rest := [.long (lN s0)]) ⟨hx, hb, hml, hown, hts⟩ (c_M_times l (nn (S 2 k)) f0 q0 (by omega) (by omega) (by omega) (by omega)) (va_cwS 3 hts (al_S k_440 k_441 k_4 k_442) rfl rfl rfl (by decide +kernel) ⟨Nat.le_of_ble_eq_true rfl, Nat.le_of_ble_eq_true rfl⟩) (fun _ _ _ _ h => h) (fun _ _ _ => trivial) rfl hl.1 rfl (lv_room (Nat.le_of_ble_eq_true rfl)) d_M_at_33 ⟨Nat.zero_le _, Nat.zero_le _⟩ ?_
        refine lv_i2l (v := (lN (nn (S 2 k) * f0 % q0))) hx hb d_M_at_36 (nI_l (by omega)) ?_
        refine lv_ladd hx hb d_M_at_37 ?_
        refine x_l (y := lN (s0 + nn (S 2 k) * f0 % q0)) (lN_add _ _) ?_
        refine lv_aload_n hx hb d_M_at_38 rfl (lv_at hl 0 rfl) ?_
        refine va_get (D := (dC, dI)) (ci := 3) (v := .int (nI q0)) (C := "DealtSecretModel") (T := T_M) (N := 24) hx hb hts i_M hown hK hP 0 rfl rfl 1 (by decide) (hts _ k_444) (fun _ h9 => h9) rfl d_M_at_39 ?_
        refine lv_i2l (v := (lN q0)) hx hb d_M_at_42 (nI_l okq) ?_
        refine lv_lrem hx hb d_M_at_43 (nz_lne (by omega) okq) ?_
        refine x_l (y := lN ((s0 + nn (S 2 k) * f0 % q0) % q0)) (nz_lrem (by omega) (by omega) okq) ?_
        refine lv_lstore_n (lv' := [(3, .long (lN ((s0 + nn (S 2 k) * f0 % q0) % q0))), (0, .ref (Y 0)), (1, .ref (Y 2)), (2, .int (nI i0)), (5, .int (nI f0)), (6, .int (nI k))]) hx hb d_M_at_44 rfl hl (by decide) rfl (fun ls hl => ?_)
        refine lv_iload hx hb d_M_at_45 (lv_at hl 4 rfl) ?_
        refine lv_iload_n hx hb d_M_at_47 rfl (lv_at hl 3 rfl) ?_
        refine lv_aload_n hx hb d_M_at_48 rfl (lv_at hl 1 rfl) ?_
        refine va_get (D := (dC, dI)) (ci := 3) (v := .int (nI q0)) (C := "DealtSecretModel") (T := T_M) (N := 24) hx hb hts i_M hown hK hP 0 rfl rfl 1 (by decide) (hts _ k_444) (fun _ h9 => h9) rfl d_M_at_49 ?_
        refine lv_irem hx hb d_M_at_52 (nz_ine (by omega) okq) ?_
        refine x_i (y := nI (i0 % q0)) (pk_rem hi0 (by omega) okq) ?_
        refine lv_aload_n hx hb d_M_at_53 rfl (lv_at hl 1 rfl) ?_
        refine va_get (D := (dC, dI)) (ci := 3) (v := .int (nI q0)) (C := "DealtSecretModel") (T := T_M) (N := 24) hx hb hts i_M hown hK hP 0 rfl rfl 1 (by decide) (hts _ k_444) (fun _ h9 => h9) rfl d_M_at_54 ?_
        refine ro_S (As := [.int (nI f0), .int (nI (i0 % q0)), .int (nI q0)]) (rest := []) ⟨hx, hb, hml, hown, hts⟩ (c_M_times l f0 (i0 % q0) q0 (by omega) (by omega) (by omega) (by omega)) (va_cwS 3 hts (al_S k_440 k_441 k_4 k_442) rfl rfl rfl (by decide +kernel) ⟨Nat.le_of_ble_eq_true rfl, Nat.le_of_ble_eq_true rfl⟩) (fun _ _ _ _ h => h) (fun _ _ _ => trivial) rfl hl.1 rfl (lv_room (Nat.le_of_ble_eq_true rfl)) d_M_at_57 ⟨Nat.zero_le _, Nat.zero_le _⟩ ?_
        refine lv_istore (lv' := [(5, .int (nI (f0 * (i0 % q0) % q0))), (3, .long (lN ((s0 + nn (S 2 k) * f0 % q0) % q0))), (0, .ref (Y 0)), (1, .ref (Y 2)), (2, .int (nI i0)), (6, .int (nI k))]) hx hb d_M_at_60 hl (by decide) rfl (fun ls hl => ?_)
        refine lv_iinc (v := (nI (k + 1))) (lv' := [(6, .int (nI (k + 1))), (5, .int (nI (f0 * (i0 % q0) % q0))), (3, .long (lN ((s0 + nn (S 2 k) * f0 % q0) % q0))), (0, .ref (Y 0)), (1, .ref (Y 2)), (2, .int (nI i0))]) hx hb d_M_at_62 hl (k := 5) rfl (nI_1 k) (by decide) rfl (fun ls hl => ?_)
        refine lv_goto (tgt := 13) hx hb d_M_at_65 (by decide) ?_
        exact ih (k + 1) _ _ ls (by omega) (by omega) (by rw [hs, hf, mz_sumturn]; rfl) (by rw [hf, Nat.pow_succ, ← Nat.mul_mod]) (lv_sub hl [3, 4, 5, 2, 1, 0] rfl)
  refine lv_lconst (v := (lN 0)) hx hb d_M_at_0 (by decide) ?_
  refine lv_lstore_n (lv' := [(3, .long (lN 0)), (0, .ref (Y 0)), (1, .ref (Y 2)), (2, .int (nI i0))]) hx hb d_M_at_1 rfl hl (by decide) rfl (fun ls hl => ?_)
  refine lv_iconst (v := (nI 1)) hx hb d_M_at_2 (by decide) ?_
  refine lv_aload_n hx hb d_M_at_3 rfl (lv_at hl 1 rfl) ?_
  refine va_get (D := (dC, dI)) (ci := 3) (v := .int (nI q0)) (C := "DealtSecretModel") (T := T_M) (N := 24) hx hb hts i_M hown hK hP 0 rfl rfl 1 (by decide) (hts _ k_444) (fun _ h9 => h9) rfl d_M_at_4 ?_
  refine lv_irem hx hb d_M_at_7 (nz_ine (by omega) okq) ?_
  refine x_i (y := nI (1 % q0)) (pk_rem (by omega) (by omega) okq) ?_
  refine lv_istore (lv' := [(5, .int (nI (1 % q0))), (3, .long (lN 0)), (0, .ref (Y 0)), (1, .ref (Y 2)), (2, .int (nI i0))]) hx hb d_M_at_8 hl (by decide) rfl (fun ls hl => ?_)
  refine lv_iconst (v := (nI 0)) hx hb d_M_at_10 (by decide) ?_
  refine lv_istore (lv' := [(6, .int (nI 0)), (5, .int (nI (1 % q0))), (3, .long (lN 0)), (0, .ref (Y 0)), (1, .ref (Y 2)), (2, .int (nI i0))]) hx hb d_M_at_11 hl (by decide) rfl (fun ls hl => ?_)
  exact loop (t0 + 1) 0 0 (1 % q0) ls (by omega) (by omega) (Nat.zero_mod _).symm rfl (lv_sub hl [3, 4, 5, 2, 1, 0] rfl)
end
section
theorem nz_dec (k : Nat) : nI k + Int32.ofInt (-1) = nI k - 1 := by
  rw [Int32.sub_eq_add_neg]
  exact congrArg (fun z => nI k + z) (by decide)
set_option maxRecDepth 100000 in
set_option maxHeartbeats 4000000 in
/-- stage() -/
theorem c_C_stage (l : Launch) (dC : Nat → ClassId) (dI : Nat → Nat → Nat) (Z : Nat → Nat) (cI cP : ClassId) (p0 q0 g0 h0 : Nat) (S : Nat → Nat → Int32) : Ro l y_C_stage ws_C_stage 0 0 [.ref (Z 0)] (bC dC dI Z cI cP p0 q0 g0 h0 S) (S 0 0) := by
  refine Met.ofW (cc := b_C_stage) (maxL := 1) (ret := (some .int)) (by decide) rfl ?_
  intro p e s m args below meth c s₁ B hml hv
  obtain ⟨rfl, hP, hK⟩ := hv
  have hx := B.exec
  have hb := B.bytes
  have hr := B.returns
  have hts : ∀ w ∈ AL, w.before ([.ref (Z 0)] : List Value).toArray s = true := fun w h => atoms_spec (ws := ws_C_stage) B.pre w (List.mem_cons_of_mem _ h)
  have hown : s.vm.findClass "DealtSecret" = some m.cls := findClass_of_methodNamed B.named
  have hlk := B.notSynchronized
  have hl := lv_entry ([.ref (Z 0)]) (n := 1) (Nat.le_of_ble_eq_true rfl)
  rw [lg_entry_eq]
  generalize (lg_sl ([.ref (Z 0)]) ++ List.replicate (1 - (lg_sl ([.ref (Z 0)])).length) Slot.unset).toArray = ls at hl ⊢
  have hl : lv_has ls 1 [(0, .ref (Z 0))] := hl
  refine lv_aload_n hx hb d_C_stage_0 rfl (lv_at hl 0 rfl) ?_
  refine va_get (D := (dC, dI)) (ci := 2) (v := .int (S 0 0)) (C := "DealtSecret") (T := T_C) (N := 11) hx hb hts i_C hown hK hP 0 rfl rfl 5 (by decide) (hts _ k_106) (fun _ h9 => h9) rfl d_C_stage_1 ?_
  exact ro_i hx hb hr hlk d_C_stage_4 (rfl)
set_option maxRecDepth 100000 in
set_option maxHeartbeats 4000000 in
/-- isParticipant(i) -/
theorem c_C_isParticipant (l : Launch) (dC : Nat → ClassId) (dI : Nat → Nat → Nat) (Z : Nat → Nat) (cI cP : ClassId) (p0 q0 g0 h0 : Nat) (S : Nat → Nat → Int32) (i0 : Int32) : Ro l y_C_isParticipant ws_C_isParticipant 0 0 [.ref (Z 0), .int i0] (bC dC dI Z cI cP p0 q0 g0 h0 S) (mz_b (isPt (S 0 1) i0)) := by
  refine Met.ofW (cc := b_C_isParticipant) (maxL := 2) (ret := (some .boolean)) (by decide) rfl ?_
  intro p e s m args below meth c s₁ B hml hv
  obtain ⟨rfl, hP, hK⟩ := hv
  have hx := B.exec
  have hb := B.bytes
  have hr := B.returns
  have hts : ∀ w ∈ AL, w.before ([.ref (Z 0), .int i0] : List Value).toArray s = true := fun w h => atoms_spec (ws := ws_C_isParticipant) B.pre w (List.mem_cons_of_mem _ h)
  have hown : s.vm.findClass "DealtSecret" = some m.cls := findClass_of_methodNamed B.named
  have hlk := B.notSynchronized
  have hl := lv_entry ([.ref (Z 0), .int i0]) (n := 2) (Nat.le_of_ble_eq_true rfl)
  rw [lg_entry_eq]
  generalize (lg_sl ([.ref (Z 0), .int i0]) ++ List.replicate (2 - (lg_sl ([.ref (Z 0), .int i0])).length) Slot.unset).toArray = ls at hl ⊢
  have hl : lv_has ls 2 [(0, .ref (Z 0)), (1, .int i0)] := hl
  refine lv_iload_n hx hb d_C_isParticipant_0 rfl (lv_at hl 1 rfl) ?_
  refine lv_iconst (v := 1) hx hb d_C_isParticipant_1 (by decide) ?_
  refine lv_icmp_lt (tgt := 17) hx hb d_C_isParticipant_2 (by decide) (fun c2 => ?_) (fun c2 => ?_)
  · refine lv_iconst (v := 0) hx hb d_C_isParticipant_17 (by decide) ?_
    exact ro_z hx hb hr hlk d_C_isParticipant_18 (by first | rfl | exact mz_bn _) ((mz_bf fun q => by first | exact q.1 c2 | exact q.2 c10).symm)
  · refine lv_iload_n hx hb d_C_isParticipant_5 rfl (lv_at hl 1 rfl) ?_
    refine lv_aload_n hx hb d_C_isParticipant_6 rfl (lv_at hl 0 rfl) ?_
    refine va_get (D := (dC, dI)) (ci := 2) (v := .int (S 0 1)) (C := "DealtSecret") (T := T_C) (N := 11) hx hb hts i_C hown hK hP 0 rfl rfl 6 (by decide) (hts _ k_107) (fun _ h9 => h9) rfl d_C_isParticipant_7 ?_
    refine lv_icmp_gt (tgt := 17) hx hb d_C_isParticipant_10 (by decide) (fun c10 => ?_) (fun c10 => ?_)
    · refine lv_iconst (v := 0) hx hb d_C_isParticipant_17 (by decide) ?_
      exact ro_z hx hb hr hlk d_C_isParticipant_18 (by first | rfl | exact mz_bn _) ((mz_bf fun q => by first | exact q.1 c2 | exact q.2 c10).symm)
    · refine lv_iconst (v := 1) hx hb d_C_isParticipant_13 (by decide) ?_
      refine lv_goto (tgt := 18) hx hb d_C_isParticipant_14 (by decide) ?_
      exact ro_z hx hb hr hlk d_C_isParticipant_18 (by first | rfl | exact mz_bn _) ((mz_bt ⟨c2, c10⟩).symm)
set_option maxRecDepth 100000 in
set_option maxHeartbeats 4000000 in
/-- isCoefficient(k) -/
theorem c_C_isCoefficient (l : Launch) (dC : Nat → ClassId) (dI : Nat → Nat → Nat) (Z : Nat → Nat) (cI cP : ClassId) (p0 q0 g0 h0 : Nat) (S : Nat → Nat → Int32) (k0 : Int32) : Ro l y_C_isCoefficient ws_C_isCoefficient 0 0 [.ref (Z 0), .int k0] (bC dC dI Z cI cP p0 q0 g0 h0 S) (mz_b (isCf (S 0 2) k0)) := by
  refine Met.ofW (cc := b_C_isCoefficient) (maxL := 2) (ret := (some .boolean)) (by decide) rfl ?_
  intro p e s m args below meth c s₁ B hml hv
  obtain ⟨rfl, hP, hK⟩ := hv
  have hx := B.exec
  have hb := B.bytes
  have hr := B.returns
  have hts : ∀ w ∈ AL, w.before ([.ref (Z 0), .int k0] : List Value).toArray s = true := fun w h => atoms_spec (ws := ws_C_isCoefficient) B.pre w (List.mem_cons_of_mem _ h)
  have hown : s.vm.findClass "DealtSecret" = some m.cls := findClass_of_methodNamed B.named
  have hlk := B.notSynchronized
  have hl := lv_entry ([.ref (Z 0), .int k0]) (n := 2) (Nat.le_of_ble_eq_true rfl)
  rw [lg_entry_eq]
  generalize (lg_sl ([.ref (Z 0), .int k0]) ++ List.replicate (2 - (lg_sl ([.ref (Z 0), .int k0])).length) Slot.unset).toArray = ls at hl ⊢
  have hl : lv_has ls 2 [(0, .ref (Z 0)), (1, .int k0)] := hl
  refine lv_iload_n hx hb d_C_isCoefficient_0 rfl (lv_at hl 1 rfl) ?_
  refine lv_if_lt (tgt := 16) hx hb d_C_isCoefficient_1 (by decide) (fun c1 => ?_) (fun c1 => ?_)
  · refine lv_iconst (v := 0) hx hb d_C_isCoefficient_16 (by decide) ?_
    exact ro_z hx hb hr hlk d_C_isCoefficient_17 (by first | rfl | exact mz_bn _) ((mz_bf fun q => by first | exact q.1 c1 | exact q.2 c9).symm)
  · refine lv_iload_n hx hb d_C_isCoefficient_4 rfl (lv_at hl 1 rfl) ?_
    refine lv_aload_n hx hb d_C_isCoefficient_5 rfl (lv_at hl 0 rfl) ?_
    refine va_get (D := (dC, dI)) (ci := 2) (v := .int (S 0 2)) (C := "DealtSecret") (T := T_C) (N := 11) hx hb hts i_C hown hK hP 0 rfl rfl 7 (by decide) (hts _ k_108) (fun _ h9 => h9) rfl d_C_isCoefficient_6 ?_
    refine lv_icmp_ge (tgt := 16) hx hb d_C_isCoefficient_9 (by decide) (fun c9 => ?_) (fun c9 => ?_)
    · refine lv_iconst (v := 0) hx hb d_C_isCoefficient_16 (by decide) ?_
      exact ro_z hx hb hr hlk d_C_isCoefficient_17 (by first | rfl | exact mz_bn _) ((mz_bf fun q => by first | exact q.1 c1 | exact q.2 c9).symm)
    · refine lv_iconst (v := 1) hx hb d_C_isCoefficient_12 (by decide) ?_
      refine lv_goto (tgt := 17) hx hb d_C_isCoefficient_13 (by decide) ?_
      exact ro_z hx hb hr hlk d_C_isCoefficient_17 (by first | rfl | exact mz_bn _) ((mz_bt ⟨c1, c9⟩).symm)
set_option maxRecDepth 100000 in
set_option maxHeartbeats 4000000 in
/-- isDealt() -/
theorem c_C_isDealt (l : Launch) (dC : Nat → ClassId) (dI : Nat → Nat → Nat) (Z : Nat → Nat) (cI cP : ClassId) (p0 q0 g0 h0 : Nat) (S : Nat → Nat → Int32) : Ro l y_C_isDealt ws_C_isDealt 0 0 [.ref (Z 0)] (bC dC dI Z cI cP p0 q0 g0 h0 S) (mz_b (¬ S 0 0 < 2)) := by
  refine Met.ofW (cc := b_C_isDealt) (maxL := 1) (ret := (some .boolean)) (by decide) rfl ?_
  intro p e s m args below meth c s₁ B hml hv
  obtain ⟨rfl, hP, hK⟩ := hv
  have hx := B.exec
  have hb := B.bytes
  have hr := B.returns
  have hts : ∀ w ∈ AL, w.before ([.ref (Z 0)] : List Value).toArray s = true := fun w h => atoms_spec (ws := ws_C_isDealt) B.pre w (List.mem_cons_of_mem _ h)
  have hown : s.vm.findClass "DealtSecret" = some m.cls := findClass_of_methodNamed B.named
  have hlk := B.notSynchronized
  have hl := lv_entry ([.ref (Z 0)]) (n := 1) (Nat.le_of_ble_eq_true rfl)
  rw [lg_entry_eq]
  generalize (lg_sl ([.ref (Z 0)]) ++ List.replicate (1 - (lg_sl ([.ref (Z 0)])).length) Slot.unset).toArray = ls at hl ⊢
  have hl : lv_has ls 1 [(0, .ref (Z 0))] := hl
  refine lv_aload_n hx hb d_C_isDealt_0 rfl (lv_at hl 0 rfl) ?_
  refine va_get (D := (dC, dI)) (ci := 2) (v := .int (S 0 0)) (C := "DealtSecret") (T := T_C) (N := 11) hx hb hts i_C hown hK hP 0 rfl rfl 5 (by decide) (hts _ k_106) (fun _ h9 => h9) rfl d_C_isDealt_1 ?_
  refine lv_iconst (v := 2) hx hb d_C_isDealt_4 (by decide) ?_
  refine lv_icmp_lt (tgt := 12) hx hb d_C_isDealt_5 (by decide) (fun c5 => ?_) (fun c5 => ?_)
  · refine lv_iconst (v := 0) hx hb d_C_isDealt_12 (by decide) ?_
    exact ro_z hx hb hr hlk d_C_isDealt_13 (by first | rfl | exact mz_bn _) ((mz_bf fun q => q c5).symm)
  · refine lv_iconst (v := 1) hx hb d_C_isDealt_8 (by decide) ?_
    refine lv_goto (tgt := 13) hx hb d_C_isDealt_9 (by decide) ?_
    exact ro_z hx hb hr hlk d_C_isDealt_13 (by first | rfl | exact mz_bn _) ((mz_bt c5).symm)
set_option maxRecDepth 100000 in
set_option maxHeartbeats 4000000 in
/-- blindNumber(x) -/
theorem c_C_blindNumber (l : Launch) (dC : Nat → ClassId) (dI : Nat → Nat → Nat) (Z : Nat → Nat) (cI cP : ClassId) (p0 q0 g0 h0 : Nat) (S : Nat → Nat → Int32) (x0 : Int32) (ok : okG p0 q0 g0 h0) : Ro l y_C_blindNumber ws_C_blindNumber 2 43 [.ref (Z 0), .int x0] (bC dC dI Z cI cP p0 q0 g0 h0 S) (bnum (S 0 3) x0 q0) := by
  refine Met.ofW (cc := b_C_blindNumber) (maxL := 2) (ret := (some .int)) (by decide) rfl ?_
  intro p e s m args below meth c s₁ B hml hv
  obtain ⟨rfl, hP, hK⟩ := hv
  have hx := B.exec
  have hb := B.bytes
  have hr := B.returns
  have hts : ∀ w ∈ AL, w.before ([.ref (Z 0), .int x0] : List Value).toArray s = true := fun w h => atoms_spec (ws := ws_C_blindNumber) B.pre w (List.mem_cons_of_mem _ h)
  have hown : s.vm.findClass "DealtSecret" = some m.cls := findClass_of_methodNamed B.named
  have hlk := B.notSynchronized
  have hl := lv_entry ([.ref (Z 0), .int x0]) (n := 2) (Nat.le_of_ble_eq_true rfl)
  rw [lg_entry_eq]
  generalize (lg_sl ([.ref (Z 0), .int x0]) ++ List.replicate (2 - (lg_sl ([.ref (Z 0), .int x0])).length) Slot.unset).toArray = ls at hl ⊢
  have hl : lv_has ls 2 [(0, .ref (Z 0)), (1, .int x0)] := hl
  obtain ⟨okp2, okp, okq2, okq, okg, okh⟩ := id ok
  refine lv_aload_n hx hb d_C_blindNumber_0 rfl (lv_at hl 0 rfl) ?_
  refine va_get (D := (dC, dI)) (ci := 2) (v := .int (S 0 3)) (C := "DealtSecret") (T := T_C) (N := 11) hx hb hts i_C hown hK hP 0 rfl rfl 8 (by decide) (hts _ k_109) (fun _ h9 => h9) rfl d_C_blindNumber_1 ?_
  refine lv_if_eq (tgt := 18) hx hb d_C_blindNumber_4 (by decide) (fun c4 => ?_) (fun c4 => ?_)
  · refine lv_iconst (v := 0) hx hb d_C_blindNumber_18 (by decide) ?_
    exact ro_i hx hb hr hlk d_C_blindNumber_19 ((if_pos c4).symm)
  · refine lv_aload_n hx hb d_C_blindNumber_7 rfl (lv_at hl 0 rfl) ?_
    refine va_get (D := (dC, dI)) (ci := 2) (v := .ref (Z 1)) (C := "DealtSecret") (T := T_C) (N := 11) hx hb hts i_C hown hK hP 0 rfl rfl 0 (by decide) (hts _ k_101) (fun _ h9 => h9) rfl d_C_blindNumber_8 ?_
    refine lv_iload_n hx hb d_C_blindNumber_11 rfl (lv_at hl 1 rfl) ?_
    refine ro_V (As := [.int x0]) (rest := []) (b := (Z 1)) ⟨hx, hb, hml, hown, hts⟩ (c_G_number l dC dI (Z 1) p0 q0 g0 h0 x0 (by omega) okq) (cwV 1 hts (al_V k_288 k_289 k_290 k_2 k_291) rfl rfl rfl (by decide +kernel) ⟨Nat.le_of_ble_eq_true rfl, Nat.le_of_ble_eq_true rfl⟩) (fun U g mk a h => ⟨h.1, va_K.moved (u := U) (U := U.calling g mk a) (Vm.Alike.refl U.vm) h.2⟩) (va_recv hK hP (ci := 0) (q0 := 1) rfl rfl) (fun U hU hW => ⟨by rw [hU]; exact (hP.sub [1] rfl), va_K.moved hW.alike (hK.sub [] rfl)⟩) rfl hl.1 rfl (lv_room (Nat.le_of_ble_eq_true rfl)) d_C_blindNumber_12 ⟨Nat.zero_le _, Nat.zero_le _⟩ ?_
    refine lv_goto (tgt := 19) hx hb d_C_blindNumber_15 (by decide) ?_
    exact ro_i hx hb hr hlk d_C_blindNumber_19 ((if_neg c4).symm)
set_option maxRecDepth 100000 in
set_option maxHeartbeats 4000000 in
/-- publishedAt(i): the product of published[k]^(i^k) modulo p -/
theorem c_C_publishedAt (l : Launch) (dC : Nat → ClassId) (dI : Nat → Nat → Nat) (Z : Nat → Nat) (cI cP : ClassId) (p0 q0 g0 h0 : Nat) (S : Nat → Nat → Int32) (i0 t0 : Nat) (hi0 : i0 < 2 ^ 31) (ht : S 0 2 = nI t0) (ht7 : t0 ≤ 7) (ok : okG p0 q0 g0 h0) (hC : ∀ k, k < t0 → okN (S 3 k) p0) : Ro l y_C_publishedAt ws_C_publishedAt 2 49 [.ref (Z 0), .int (nI i0)] (bC dC dI Z cI cP p0 q0 g0 h0 S) (nI (mz_cp (fun k => nn (S 3 k)) i0 0 t0 % p0)) := by
  refine Met.ofW (cc := b_C_publishedAt) (maxL := 4) (ret := (some .int)) (by decide) rfl ?_
  intro p e s m args below meth c s₁ B hml hv
  obtain ⟨rfl, hP, hK⟩ := hv
  have hx := B.exec
  have hb := B.bytes
  have hr := B.returns
  have hts : ∀ w ∈ AL, w.before ([.ref (Z 0), .int (nI i0)] : List Value).toArray s = true := fun w h => atoms_spec (ws := ws_C_publishedAt) B.pre w (List.mem_cons_of_mem _ h)
  have hown : s.vm.findClass "DealtSecret" = some m.cls := findClass_of_methodNamed B.named
  have hlk := B.notSynchronized
  have hl := lv_entry ([.ref (Z 0), .int (nI i0)]) (n := 4) (Nat.le_of_ble_eq_true rfl)
  rw [lg_entry_eq]
  generalize (lg_sl ([.ref (Z 0), .int (nI i0)]) ++ List.replicate (4 - (lg_sl ([.ref (Z 0), .int (nI i0)])).length) Slot.unset).toArray = ls at hl ⊢
  have hl : lv_has ls 4 [(0, .ref (Z 0)), (1, .int (nI i0))] := hl
  obtain ⟨okp2, okp, okq2, okq, okg, okh⟩ := id ok
  have loop : ∀ (kk v : Nat) (ls : Array Slot), kk ≤ t0 → v = mz_cp (fun k => nn (S 3 k)) i0 kk (t0 - kk) % p0 → lv_has ls 4 [(0, .ref (Z 0)), (1, .int (nI i0)), (2, .int (nI v)), (3, .int (nI kk - 1))] → W p l e (headSpec ws_C_publishedAt { frames := 2, cells := 0, slots := 0, locals := 49 }).room s m [.ref (Z 0), .int (nI i0)].toArray below meth c s.heap [] 0 0 (MQ below (QcRead (nI (mz_cp (fun k => nn (S 3 k)) i0 0 t0 % p0))) [.ref (Z 0), .int (nI i0)].toArray s 0 0 (fun _ => False)) (F0 m 9 ls []) := by
    intro kk
    induction kk with
    | zero =>
      intro v ls _ hv0 hl
      refine lv_iload_n hx hb d_C_publishedAt_9 rfl (lv_at hl 3 rfl) ?_
      refine lv_if_lt (tgt := 42) hx hb d_C_publishedAt_10 (by decide) (fun _ => ?_) (fun c_ => absurd (by decide) c_)
      refine lv_iload_n hx hb d_C_publishedAt_42 rfl (lv_at hl 2 rfl) ?_
      exact ro_i hx hb hr hlk d_C_publishedAt_43 (by rw [hv0, Nat.sub_zero])
    | succ k ih =>
      intro v ls hk hv0 hl
      have hvp : v < p0 := by rw [hv0]; exact Nat.mod_lt _ (by omega)
      have hck := hC k (by omega)
      have hckl := hck.lt
      have hvi : v ^ i0 % p0 < p0 := Nat.mod_lt _ (by omega)
      have hl : lv_has ls 4 [(0, .ref (Z 0)), (1, .int (nI i0)), (2, .int (nI v)), (3, .int (nI k))] := by rw [nI_pred] at hl; exact hl
      refine lv_iload_n hx hb d_C_publishedAt_9 rfl (lv_at hl 3 rfl) ?_
      refine lv_if_lt (tgt := 42) hx hb d_C_publishedAt_10 (by decide) (fun c_ => absurd c_ (nI_pos (by omega))) (fun _ => ?_)
      refine lv_aload_n hx hb d_C_publishedAt_13 rfl (lv_at hl 0 rfl) ?_
      refine va_get (D := (dC, dI)) (ci := 2) (v := .ref (Z 1)) (C := "DealtSecret") (T := T_C) (N := 11) hx hb hts i_C hown hK hP 0 rfl rfl 0 (by decide) (hts _ k_101) (fun _ h9 => h9) rfl d_C_publishedAt_14 ?_
      refine lv_aload_n hx hb d_C_publishedAt_17 rfl (lv_at hl 0 rfl) ?_
      refine va_get (D := (dC, dI)) (ci := 2) (v := .ref (Z 1)) (C := "DealtSecret") (T := T_C) (N := 11) hx hb hts i_C hown hK hP 0 rfl rfl 0 (by decide) (hts _ k_101) (fun _ h9 => h9) rfl d_C_publishedAt_18 ?_
      refine lv_iload_n hx hb d_C_publishedAt_21 rfl (lv_at hl 2 rfl) ?_
      refine lv_iload_n hx hb d_C_publishedAt_22 rfl (lv_at hl 1 rfl) ?_
      refine ro_V (As := [.int (nI v), .int (nI i0)]) (rest := [.ref (Z 1)]) (b := (Z 1)) ⟨hx, hb, hml, hown, hts⟩ (c_G_power l dC dI (Z 1) p0 q0 g0 h0 v i0 (by omega) hi0 okp2 okp) (cwV 2 hts (al_V k_184 k_174 k_175 k_2 k_176) rfl rfl rfl (by decide +kernel) ⟨Nat.le_of_ble_eq_true rfl, Nat.le_of_ble_eq_true rfl⟩) (fun U g mk a h => ⟨h.1, va_K.moved (u := U) (U := U.calling g mk a) (Vm.Alike.refl U.vm) h.2⟩) (va_recv hK hP (ci := 0) (q0 := 1) rfl rfl) (fun U hU hW => ⟨by rw [hU]; exact (hP.sub [1] rfl), va_K.moved hW.alike (hK.sub [] rfl)⟩) rfl hl.1 rfl (lv_room (Nat.le_of_ble_eq_true rfl)) d_C_publishedAt_23 ⟨Nat.zero_le _, Nat.zero_le _⟩ ?_
      refine lv_aload_n hx hb d_C_publishedAt_26 rfl (lv_at hl 0 rfl) ?_
      refine va_get (D := (dC, dI)) (ci := 2) (v := .ref (Z 4)) (C := "DealtSecret") (T := T_C) (N := 11) hx hb hts i_C hown hK hP 0 rfl rfl 3 (by decide) (hts _ k_104) (fun _ h9 => h9) rfl d_C_publishedAt_27 ?_
      refine lv_iload_n hx hb d_C_publishedAt_30 rfl (lv_at hl 3 rfl) ?_
      refine va_iald hx hb hK hP 4 0 rfl rfl (vp_in_nI (by omega) (by decide)) d_C_publishedAt_31 ?_
      refine x_i (y := S 3 k) (by rw [nI_clamp (by omega)]) ?_
      refine x_i (y := nI (nn (S 3 k))) (hck.eq) ?_
      refine ro_V (As := [.int (nI (v ^ i0 % p0)), .int (nI (nn (S 3 k)))]) (rest := []) (b := (Z 1)) ⟨hx, hb, hml, hown, hts⟩ (c_G_product l dC dI (Z 1) p0 q0 g0 h0 (v ^ i0 % p0) (nn (S 3 k)) (by omega) (by omega) (by omega) okp) (cwV 2 hts (al_V k_185 k_178 k_179 k_2 k_180) rfl rfl rfl (by decide +kernel) ⟨Nat.le_of_ble_eq_true rfl, Nat.le_of_ble_eq_true rfl⟩) (fun U g mk a h => ⟨h.1, va_K.moved (u := U) (U := U.calling g mk a) (Vm.Alike.refl U.vm) h.2⟩) (va_recv hK hP (ci := 0) (q0 := 1) rfl rfl) (fun U hU hW => ⟨by rw [hU]; exact (hP.sub [1] rfl), va_K.moved hW.alike (hK.sub [] rfl)⟩) rfl hl.1 rfl (lv_room (Nat.le_of_ble_eq_true rfl)) d_C_publishedAt_32 ⟨Nat.zero_le _, Nat.zero_le _⟩ ?_
      refine lv_istore_n (lv' := [(2, .int (nI ((v ^ i0 % p0) * nn (S 3 k) % p0))), (0, .ref (Z 0)), (1, .int (nI i0)), (3, .int (nI k))]) hx hb d_C_publishedAt_35 rfl hl (by decide) rfl (fun ls hl => ?_)
      refine lv_iinc (v := (nI k - 1)) (lv' := [(3, .int (nI k - 1)), (2, .int (nI ((v ^ i0 % p0) * nn (S 3 k) % p0))), (0, .ref (Z 0)), (1, .int (nI i0))]) hx hb d_C_publishedAt_36 hl (k := 3) rfl (nz_dec k) (by decide) rfl (fun ls hl => ?_)
      refine lv_goto (tgt := 9) hx hb d_C_publishedAt_39 (by decide) ?_
      exact ih _ ls (by omega) (by rw [hv0, mz_powers, show t0 - k = t0 - (k + 1) + 1 by omega]; rfl) (lv_sub hl [2, 3, 1, 0] rfl)
  refine lv_iconst (v := (nI 1)) hx hb d_C_publishedAt_0 (by decide) ?_
  refine lv_istore_n (lv' := [(2, .int (nI 1)), (0, .ref (Z 0)), (1, .int (nI i0))]) hx hb d_C_publishedAt_1 rfl hl (by decide) rfl (fun ls hl => ?_)
  refine lv_aload_n hx hb d_C_publishedAt_2 rfl (lv_at hl 1 rfl) ?_
  refine va_get (D := (dC, dI)) (ci := 2) (v := .int (S 0 2)) (C := "DealtSecret") (T := T_C) (N := 11) hx hb hts i_C hown hK hP 0 rfl rfl 7 (by decide) (hts _ k_108) (fun _ h9 => h9) rfl d_C_publishedAt_3 ?_
  refine x_i (y := nI t0) (ht) ?_
  refine lv_iconst (v := 1) hx hb d_C_publishedAt_6 (by decide) ?_
  refine lv_isub hx hb d_C_publishedAt_7 ?_
  refine lv_istore_n (lv' := [(3, .int ((nI t0) - 1)), (2, .int (nI 1)), (0, .ref (Z 0)), (1, .int (nI i0))]) hx hb d_C_publishedAt_8 rfl hl (by decide) rfl (fun ls hl => ?_)
  exact loop t0 1 ls (Nat.le_refl _) (by rw [Nat.sub_self]; exact (Nat.mod_eq_of_lt (by omega)).symm) (lv_sub hl [2, 3, 1, 0] rfl)
set_option maxRecDepth 100000 in
set_option maxHeartbeats 4000000 in
/-- valueAt(i, a): the polynomial at i modulo q -/
theorem c_C_valueAt_a (l : Launch) (dC : Nat → ClassId) (dI : Nat → Nat → Nat) (Z : Nat → Nat) (cI cP : ClassId) (p0 q0 g0 h0 : Nat) (S : Nat → Nat → Int32) (i0 t0 : Nat) (hi0 : i0 < 2 ^ 31) (ht : S 0 2 = nI t0) (ht7 : t0 ≤ 7) (ok : okG p0 q0 g0 h0) (hC : ∀ k, k < t0 → okN (S 1 k) q0) : Ro l y_C_valueAt ws_C_valueAt 1 22 [.ref (Z 0), .int (nI i0), .ref (Z 2)] (bC dC dI Z cI cP p0 q0 g0 h0 S) (nI (mz_pv (fun k => nn (S 1 k)) i0 0 t0 % q0)) := by
  refine Met.ofW (cc := b_C_valueAt) (maxL := 5) (ret := (some .int)) (by decide) rfl ?_
  intro p e s m args below meth c s₁ B hml hv
  obtain ⟨rfl, hP, hK⟩ := hv
  have hx := B.exec
  have hb := B.bytes
  have hr := B.returns
  have hts : ∀ w ∈ AL, w.before ([.ref (Z 0), .int (nI i0), .ref (Z 2)] : List Value).toArray s = true := fun w h => atoms_spec (ws := ws_C_valueAt) B.pre w (List.mem_cons_of_mem _ h)
  have hown : s.vm.findClass "DealtSecret" = some m.cls := findClass_of_methodNamed B.named
  have hlk := B.notSynchronized
  have hl := lv_entry ([.ref (Z 0), .int (nI i0), .ref (Z 2)]) (n := 5) (Nat.le_of_ble_eq_true rfl)
  rw [lg_entry_eq]
  generalize (lg_sl ([.ref (Z 0), .int (nI i0), .ref (Z 2)]) ++ List.replicate (5 - (lg_sl ([.ref (Z 0), .int (nI i0), .ref (Z 2)])).length) Slot.unset).toArray = ls at hl ⊢
  have hl : lv_has ls 5 [(0, .ref (Z 0)), (1, .int (nI i0)), (2, .ref (Z 2))] := hl
  obtain ⟨okp2, okp, okq2, okq, okg, okh⟩ := id ok
  have loop : ∀ (kk v : Nat) (ls : Array Slot), kk ≤ t0 → v = mz_pv (fun k => nn (S 1 k)) i0 kk (t0 - kk) % q0 → lv_has ls 5 [(0, .ref (Z 0)), (1, .int (nI i0)), (2, .ref (Z 2)), (3, .int (nI v)), (4, .int (nI kk - 1))] → W p l e (headSpec ws_C_valueAt { frames := 1, cells := 0, slots := 0, locals := 22 }).room s m [.ref (Z 0), .int (nI i0), .ref (Z 2)].toArray below meth c s.heap [] 0 0 (MQ below (QcRead (nI (mz_pv (fun k => nn (S 1 k)) i0 0 t0 % q0))) [.ref (Z 0), .int (nI i0), .ref (Z 2)].toArray s 0 0 (fun _ => False)) (F0 m 10 ls []) := by
    intro kk
    induction kk with
    | zero =>
      intro v ls _ hv0 hl
      refine lv_iload hx hb d_C_valueAt_10 (lv_at hl 4 rfl) ?_
      refine lv_if_lt (tgt := 42) hx hb d_C_valueAt_12 (by decide) (fun _ => ?_) (fun c_ => absurd (by decide) c_)
      refine lv_iload_n hx hb d_C_valueAt_42 rfl (lv_at hl 3 rfl) ?_
      exact ro_i hx hb hr hlk d_C_valueAt_43 (by rw [hv0, Nat.sub_zero])
    | succ k ih =>
      intro v ls hk hv0 hl
      have hvq : v < q0 := by rw [hv0]; exact Nat.mod_lt _ (by omega)
      have hck := hC k (by omega)
      have hckl := hck.lt
      have hvi : v * i0 % q0 < q0 := Nat.mod_lt _ (by omega)
      have hl : lv_has ls 5 [(0, .ref (Z 0)), (1, .int (nI i0)), (2, .ref (Z 2)), (3, .int (nI v)), (4, .int (nI k))] := by rw [nI_pred] at hl; exact hl
      refine lv_iload hx hb d_C_valueAt_10 (lv_at hl 4 rfl) ?_
      refine lv_if_lt (tgt := 42) hx hb d_C_valueAt_12 (by decide) (fun c_ => absurd c_ (nI_pos (by omega))) (fun _ => ?_)
      refine lv_aload_n hx hb d_C_valueAt_15 rfl (lv_at hl 0 rfl) ?_
      refine va_get (D := (dC, dI)) (ci := 2) (v := .ref (Z 1)) (C := "DealtSecret") (T := T_C) (N := 11) hx hb hts i_C hown hK hP 0 rfl rfl 0 (by decide) (hts _ k_101) (fun _ h9 => h9) rfl d_C_valueAt_16 ?_
      refine lv_aload_n hx hb d_C_valueAt_19 rfl (lv_at hl 0 rfl) ?_
      refine va_get (D := (dC, dI)) (ci := 2) (v := .ref (Z 1)) (C := "DealtSecret") (T := T_C) (N := 11) hx hb hts i_C hown hK hP 0 rfl rfl 0 (by decide) (hts _ k_101) (fun _ h9 => h9) rfl d_C_valueAt_20 ?_
      refine lv_iload_n hx hb d_C_valueAt_23 rfl (lv_at hl 3 rfl) ?_
      refine lv_iload_n hx hb d_C_valueAt_24 rfl (lv_at hl 1 rfl) ?_
      refine ro_V (As := [.int (nI v), .int (nI i0)]) (rest := [.ref (Z 1)]) (b := (Z 1)) ⟨hx, hb, hml, hown, hts⟩ (c_G_times l dC dI (Z 1) p0 q0 g0 h0 v i0 (by omega) hi0 (by omega) okq) (cwV 2 hts (al_V k_313 k_314 k_315 k_2 k_316) rfl rfl rfl (by decide +kernel) ⟨Nat.le_of_ble_eq_true rfl, Nat.le_of_ble_eq_true rfl⟩) (fun U g mk a h => ⟨h.1, va_K.moved (u := U) (U := U.calling g mk a) (Vm.Alike.refl U.vm) h.2⟩) (va_recv hK hP (ci := 0) (q0 := 1) rfl rfl) (fun U hU hW => ⟨by rw [hU]; exact (hP.sub [1] rfl), va_K.moved hW.alike (hK.sub [] rfl)⟩) rfl hl.1 rfl (lv_room (Nat.le_of_ble_eq_true rfl)) d_C_valueAt_25 ⟨Nat.zero_le _, Nat.zero_le _⟩ ?_
      refine lv_aload_n hx hb d_C_valueAt_28 rfl (lv_at hl 2 rfl) ?_
      refine lv_iload hx hb d_C_valueAt_29 (lv_at hl 4 rfl) ?_
      refine va_iald hx hb hK hP 2 0 rfl rfl (vp_in_nI (by omega) (by decide)) d_C_valueAt_31 ?_
      refine x_i (y := S 1 k) (by rw [nI_clamp (by omega)]) ?_
      refine x_i (y := nI (nn (S 1 k))) (hck.eq) ?_
      refine ro_V (As := [.int (nI (v * i0 % q0)), .int (nI (nn (S 1 k)))]) (rest := []) (b := (Z 1)) ⟨hx, hb, hml, hown, hts⟩ (c_G_plus l dC dI (Z 1) p0 q0 g0 h0 (v * i0 % q0) (nn (S 1 k)) (by omega) (by omega) (by omega) okq) (cwV 2 hts (al_V k_317 k_318 k_319 k_2 k_320) rfl rfl rfl (by decide +kernel) ⟨Nat.le_of_ble_eq_true rfl, Nat.le_of_ble_eq_true rfl⟩) (fun U g mk a h => ⟨h.1, va_K.moved (u := U) (U := U.calling g mk a) (Vm.Alike.refl U.vm) h.2⟩) (va_recv hK hP (ci := 0) (q0 := 1) rfl rfl) (fun U hU hW => ⟨by rw [hU]; exact (hP.sub [1] rfl), va_K.moved hW.alike (hK.sub [] rfl)⟩) rfl hl.1 rfl (lv_room (Nat.le_of_ble_eq_true rfl)) d_C_valueAt_32 ⟨Nat.zero_le _, Nat.zero_le _⟩ ?_
      refine lv_istore_n (lv' := [(3, .int (nI ((v * i0 % q0 + nn (S 1 k)) % q0))), (0, .ref (Z 0)), (1, .int (nI i0)), (2, .ref (Z 2)), (4, .int (nI k))]) hx hb d_C_valueAt_35 rfl hl (by decide) rfl (fun ls hl => ?_)
      refine lv_iinc (v := (nI k - 1)) (lv' := [(4, .int (nI k - 1)), (3, .int (nI ((v * i0 % q0 + nn (S 1 k)) % q0))), (0, .ref (Z 0)), (1, .int (nI i0)), (2, .ref (Z 2))]) hx hb d_C_valueAt_36 hl (k := 4) rfl (nz_dec k) (by decide) rfl (fun ls hl => ?_)
      refine lv_goto (tgt := 10) hx hb d_C_valueAt_39 (by decide) ?_
      exact ih _ ls (by omega) (by rw [hv0, mz_horner, show t0 - k = t0 - (k + 1) + 1 by omega]; rfl) (lv_sub hl [2, 3, 4, 1, 0] rfl)
  refine lv_iconst (v := (nI 0)) hx hb d_C_valueAt_0 (by decide) ?_
  refine lv_istore_n (lv' := [(3, .int (nI 0)), (0, .ref (Z 0)), (1, .int (nI i0)), (2, .ref (Z 2))]) hx hb d_C_valueAt_1 rfl hl (by decide) rfl (fun ls hl => ?_)
  refine lv_aload_n hx hb d_C_valueAt_2 rfl (lv_at hl 1 rfl) ?_
  refine va_get (D := (dC, dI)) (ci := 2) (v := .int (S 0 2)) (C := "DealtSecret") (T := T_C) (N := 11) hx hb hts i_C hown hK hP 0 rfl rfl 7 (by decide) (hts _ k_108) (fun _ h9 => h9) rfl d_C_valueAt_3 ?_
  refine x_i (y := nI t0) (ht) ?_
  refine lv_iconst (v := 1) hx hb d_C_valueAt_6 (by decide) ?_
  refine lv_isub hx hb d_C_valueAt_7 ?_
  refine lv_istore (lv' := [(4, .int ((nI t0) - 1)), (3, .int (nI 0)), (0, .ref (Z 0)), (1, .int (nI i0)), (2, .ref (Z 2))]) hx hb d_C_valueAt_8 hl (by decide) rfl (fun ls hl => ?_)
  exact loop t0 0 ls (Nat.le_refl _) (by rw [Nat.sub_self]; exact (Nat.zero_mod _).symm) (lv_sub hl [2, 3, 4, 1, 0] rfl)
set_option maxRecDepth 100000 in
set_option maxHeartbeats 4000000 in
/-- valueAt(i, b): the polynomial at i modulo q -/
theorem c_C_valueAt_b (l : Launch) (dC : Nat → ClassId) (dI : Nat → Nat → Nat) (Z : Nat → Nat) (cI cP : ClassId) (p0 q0 g0 h0 : Nat) (S : Nat → Nat → Int32) (i0 t0 : Nat) (hi0 : i0 < 2 ^ 31) (ht : S 0 2 = nI t0) (ht7 : t0 ≤ 7) (ok : okG p0 q0 g0 h0) (hC : ∀ k, k < t0 → okN (S 2 k) q0) : Ro l y_C_valueAt ws_C_valueAt 1 22 [.ref (Z 0), .int (nI i0), .ref (Z 3)] (bC dC dI Z cI cP p0 q0 g0 h0 S) (nI (mz_pv (fun k => nn (S 2 k)) i0 0 t0 % q0)) := by
  refine Met.ofW (cc := b_C_valueAt) (maxL := 5) (ret := (some .int)) (by decide) rfl ?_
  intro p e s m args below meth c s₁ B hml hv
  obtain ⟨rfl, hP, hK⟩ := hv
  have hx := B.exec
  have hb := B.bytes
  have hr := B.returns
  have hts : ∀ w ∈ AL, w.before ([.ref (Z 0), .int (nI i0), .ref (Z 3)] : List Value).toArray s = true := fun w h => atoms_spec (ws := ws_C_valueAt) B.pre w (List.mem_cons_of_mem _ h)
  have hown : s.vm.findClass "DealtSecret" = some m.cls := findClass_of_methodNamed B.named
  have hlk := B.notSynchronized
  have hl := lv_entry ([.ref (Z 0), .int (nI i0), .ref (Z 3)]) (n := 5) (Nat.le_of_ble_eq_true rfl)
  rw [lg_entry_eq]
  generalize (lg_sl ([.ref (Z 0), .int (nI i0), .ref (Z 3)]) ++ List.replicate (5 - (lg_sl ([.ref (Z 0), .int (nI i0), .ref (Z 3)])).length) Slot.unset).toArray = ls at hl ⊢
  have hl : lv_has ls 5 [(0, .ref (Z 0)), (1, .int (nI i0)), (2, .ref (Z 3))] := hl
  obtain ⟨okp2, okp, okq2, okq, okg, okh⟩ := id ok
  have loop : ∀ (kk v : Nat) (ls : Array Slot), kk ≤ t0 → v = mz_pv (fun k => nn (S 2 k)) i0 kk (t0 - kk) % q0 → lv_has ls 5 [(0, .ref (Z 0)), (1, .int (nI i0)), (2, .ref (Z 3)), (3, .int (nI v)), (4, .int (nI kk - 1))] → W p l e (headSpec ws_C_valueAt { frames := 1, cells := 0, slots := 0, locals := 22 }).room s m [.ref (Z 0), .int (nI i0), .ref (Z 3)].toArray below meth c s.heap [] 0 0 (MQ below (QcRead (nI (mz_pv (fun k => nn (S 2 k)) i0 0 t0 % q0))) [.ref (Z 0), .int (nI i0), .ref (Z 3)].toArray s 0 0 (fun _ => False)) (F0 m 10 ls []) := by
    intro kk
    induction kk with
    | zero =>
      intro v ls _ hv0 hl
      refine lv_iload hx hb d_C_valueAt_10 (lv_at hl 4 rfl) ?_
      refine lv_if_lt (tgt := 42) hx hb d_C_valueAt_12 (by decide) (fun _ => ?_) (fun c_ => absurd (by decide) c_)
      refine lv_iload_n hx hb d_C_valueAt_42 rfl (lv_at hl 3 rfl) ?_
      exact ro_i hx hb hr hlk d_C_valueAt_43 (by rw [hv0, Nat.sub_zero])
    | succ k ih =>
      intro v ls hk hv0 hl
      have hvq : v < q0 := by rw [hv0]; exact Nat.mod_lt _ (by omega)
      have hck := hC k (by omega)
      have hckl := hck.lt
      have hvi : v * i0 % q0 < q0 := Nat.mod_lt _ (by omega)
      have hl : lv_has ls 5 [(0, .ref (Z 0)), (1, .int (nI i0)), (2, .ref (Z 3)), (3, .int (nI v)), (4, .int (nI k))] := by rw [nI_pred] at hl; exact hl
      refine lv_iload hx hb d_C_valueAt_10 (lv_at hl 4 rfl) ?_
      refine lv_if_lt (tgt := 42) hx hb d_C_valueAt_12 (by decide) (fun c_ => absurd c_ (nI_pos (by omega))) (fun _ => ?_)
      refine lv_aload_n hx hb d_C_valueAt_15 rfl (lv_at hl 0 rfl) ?_
      refine va_get (D := (dC, dI)) (ci := 2) (v := .ref (Z 1)) (C := "DealtSecret") (T := T_C) (N := 11) hx hb hts i_C hown hK hP 0 rfl rfl 0 (by decide) (hts _ k_101) (fun _ h9 => h9) rfl d_C_valueAt_16 ?_
      refine lv_aload_n hx hb d_C_valueAt_19 rfl (lv_at hl 0 rfl) ?_
      refine va_get (D := (dC, dI)) (ci := 2) (v := .ref (Z 1)) (C := "DealtSecret") (T := T_C) (N := 11) hx hb hts i_C hown hK hP 0 rfl rfl 0 (by decide) (hts _ k_101) (fun _ h9 => h9) rfl d_C_valueAt_20 ?_
      refine lv_iload_n hx hb d_C_valueAt_23 rfl (lv_at hl 3 rfl) ?_
      refine lv_iload_n hx hb d_C_valueAt_24 rfl (lv_at hl 1 rfl) ?_
      refine ro_V (As := [.int (nI v), .int (nI i0)]) (rest := [.ref (Z 1)]) (b := (Z 1)) ⟨hx, hb, hml, hown, hts⟩ (c_G_times l dC dI (Z 1) p0 q0 g0 h0 v i0 (by omega) hi0 (by omega) okq) (cwV 2 hts (al_V k_313 k_314 k_315 k_2 k_316) rfl rfl rfl (by decide +kernel) ⟨Nat.le_of_ble_eq_true rfl, Nat.le_of_ble_eq_true rfl⟩) (fun U g mk a h => ⟨h.1, va_K.moved (u := U) (U := U.calling g mk a) (Vm.Alike.refl U.vm) h.2⟩) (va_recv hK hP (ci := 0) (q0 := 1) rfl rfl) (fun U hU hW => ⟨by rw [hU]; exact (hP.sub [1] rfl), va_K.moved hW.alike (hK.sub [] rfl)⟩) rfl hl.1 rfl (lv_room (Nat.le_of_ble_eq_true rfl)) d_C_valueAt_25 ⟨Nat.zero_le _, Nat.zero_le _⟩ ?_
      refine lv_aload_n hx hb d_C_valueAt_28 rfl (lv_at hl 2 rfl) ?_
      refine lv_iload hx hb d_C_valueAt_29 (lv_at hl 4 rfl) ?_
      refine va_iald hx hb hK hP 3 0 rfl rfl (vp_in_nI (by omega) (by decide)) d_C_valueAt_31 ?_
      refine x_i (y := S 2 k) (by rw [nI_clamp (by omega)]) ?_
      refine x_i (y := nI (nn (S 2 k))) (hck.eq) ?_
      refine ro_V (As := [.int (nI (v * i0 % q0)), .int (nI (nn (S 2 k)))]) (rest := []) (b := (Z 1)) ⟨hx, hb, hml, hown, hts⟩ (c_G_plus l dC dI (Z 1) p0 q0 g0 h0 (v * i0 % q0) (nn (S 2 k)) (by omega) (by omega) (by omega) okq) (cwV 2 hts (al_V k_317 k_318 k_319 k_2 k_320) rfl rfl rfl (by decide +kernel) ⟨Nat.le_of_ble_eq_true rfl, Nat.le_of_ble_eq_true rfl⟩) (fun U g mk a h => ⟨h.1, va_K.moved (u := U) (U := U.calling g mk a) (Vm.Alike.refl U.vm) h.2⟩) (va_recv hK hP (ci := 0) (q0 := 1) rfl rfl) (fun U hU hW => ⟨by rw [hU]; exact (hP.sub [1] rfl), va_K.moved hW.alike (hK.sub [] rfl)⟩) rfl hl.1 rfl (lv_room (Nat.le_of_ble_eq_true rfl)) d_C_valueAt_32 ⟨Nat.zero_le _, Nat.zero_le _⟩ ?_
      refine lv_istore_n (lv' := [(3, .int (nI ((v * i0 % q0 + nn (S 2 k)) % q0))), (0, .ref (Z 0)), (1, .int (nI i0)), (2, .ref (Z 3)), (4, .int (nI k))]) hx hb d_C_valueAt_35 rfl hl (by decide) rfl (fun ls hl => ?_)
      refine lv_iinc (v := (nI k - 1)) (lv' := [(4, .int (nI k - 1)), (3, .int (nI ((v * i0 % q0 + nn (S 2 k)) % q0))), (0, .ref (Z 0)), (1, .int (nI i0)), (2, .ref (Z 3))]) hx hb d_C_valueAt_36 hl (k := 4) rfl (nz_dec k) (by decide) rfl (fun ls hl => ?_)
      refine lv_goto (tgt := 10) hx hb d_C_valueAt_39 (by decide) ?_
      exact ih _ ls (by omega) (by rw [hv0, mz_horner, show t0 - k = t0 - (k + 1) + 1 by omega]; rfl) (lv_sub hl [2, 3, 4, 1, 0] rfl)
  refine lv_iconst (v := (nI 0)) hx hb d_C_valueAt_0 (by decide) ?_
  refine lv_istore_n (lv' := [(3, .int (nI 0)), (0, .ref (Z 0)), (1, .int (nI i0)), (2, .ref (Z 3))]) hx hb d_C_valueAt_1 rfl hl (by decide) rfl (fun ls hl => ?_)
  refine lv_aload_n hx hb d_C_valueAt_2 rfl (lv_at hl 1 rfl) ?_
  refine va_get (D := (dC, dI)) (ci := 2) (v := .int (S 0 2)) (C := "DealtSecret") (T := T_C) (N := 11) hx hb hts i_C hown hK hP 0 rfl rfl 7 (by decide) (hts _ k_108) (fun _ h9 => h9) rfl d_C_valueAt_3 ?_
  refine x_i (y := nI t0) (ht) ?_
  refine lv_iconst (v := 1) hx hb d_C_valueAt_6 (by decide) ?_
  refine lv_isub hx hb d_C_valueAt_7 ?_
  refine lv_istore (lv' := [(4, .int ((nI t0) - 1)), (3, .int (nI 0)), (0, .ref (Z 0)), (1, .int (nI i0)), (2, .ref (Z 3))]) hx hb d_C_valueAt_8 hl (by decide) rfl (fun ls hl => ?_)
  exact loop t0 0 ls (Nat.le_refl _) (by rw [Nat.sub_self]; exact (Nat.zero_mod _).symm) (lv_sub hl [2, 3, 4, 1, 0] rfl)
set_option maxRecDepth 100000 in
set_option maxHeartbeats 4000000 in
/-- isPairRight(one, u, v): does the pair fit -/
theorem c_C_isPairRight (l : Launch) (dC : Nat → ClassId) (dI : Nat → Nat → Nat) (Z : Nat → Nat) (cI cP : ClassId) (p0 q0 g0 h0 : Nat) (S : Nat → Nat → Int32) (j u0 v0 t0 : Nat) (hj : j < 7) (hN : S 4 j = nI (j + 1)) (hu0 : u0 < 2 ^ 31) (hv0 : v0 < 2 ^ 31) (ht : S 0 2 = nI t0) (ht7 : t0 ≤ 7) (ok : okG p0 q0 g0 h0) (hC : ∀ k, k < t0 → okN (S 3 k) p0) : Ro l y_C_isPairRight ws_C_isPairRight 3 72 [.ref (Z 0), .ref (Z (6 + j)), .int (nI u0), .int (nI v0)] (bC dC dI Z cI cP p0 q0 g0 h0 S) (mz_b ((g0 ^ u0 % p0) * (h0 ^ v0 % p0) % p0 = mz_cp (fun k => nn (S 3 k)) (j + 1) 0 t0 % p0)) := by
  refine Met.ofW (cc := b_C_isPairRight) (maxL := 4) (ret := (some .boolean)) (by decide) rfl ?_
  intro p e s m args below meth c s₁ B hml hv
  obtain ⟨rfl, hP, hK⟩ := hv
  have hx := B.exec
  have hb := B.bytes
  have hr := B.returns
  have hts : ∀ w ∈ AL, w.before ([.ref (Z 0), .ref (Z (6 + j)), .int (nI u0), .int (nI v0)] : List Value).toArray s = true := fun w h => atoms_spec (ws := ws_C_isPairRight) B.pre w (List.mem_cons_of_mem _ h)
  have hown : s.vm.findClass "DealtSecret" = some m.cls := findClass_of_methodNamed B.named
  have hlk := B.notSynchronized
  have hl := lv_entry ([.ref (Z 0), .ref (Z (6 + j)), .int (nI u0), .int (nI v0)]) (n := 4) (Nat.le_of_ble_eq_true rfl)
  rw [lg_entry_eq]
  generalize (lg_sl ([.ref (Z 0), .ref (Z (6 + j)), .int (nI u0), .int (nI v0)]) ++ List.replicate (4 - (lg_sl ([.ref (Z 0), .ref (Z (6 + j)), .int (nI u0), .int (nI v0)])).length) Slot.unset).toArray = ls at hl ⊢
  have hl : lv_has ls 4 [(0, .ref (Z 0)), (1, .ref (Z (6 + j))), (2, .int (nI u0)), (3, .int (nI v0))] := hl
  obtain ⟨okp2, okp, okq2, okq, okg, okh⟩ := id ok
  refine lv_aload_n hx hb d_C_isPairRight_0 rfl (lv_at hl 0 rfl) ?_
  refine va_get (D := (dC, dI)) (ci := 2) (v := .ref (Z 1)) (C := "DealtSecret") (T := T_C) (N := 11) hx hb hts i_C hown hK hP 0 rfl rfl 0 (by decide) (hts _ k_101) (fun _ h9 => h9) rfl d_C_isPairRight_1 ?_
  refine lv_iload_n hx hb d_C_isPairRight_4 rfl (lv_at hl 2 rfl) ?_
  refine lv_iload_n hx hb d_C_isPairRight_5 rfl (lv_at hl 3 rfl) ?_
  refine ro_V (As := [.int (nI u0), .int (nI v0)]) (rest := []) (b := (Z 1)) ⟨hx, hb, hml, hown, hts⟩ (c_G_commit l dC dI (Z 1) p0 q0 g0 h0 u0 v0 hu0 hv0 okg okh okp2 okp) (cwV 2 hts (al_V k_169 k_170 k_171 k_2 k_172) rfl rfl rfl (by decide +kernel) ⟨Nat.le_of_ble_eq_true rfl, Nat.le_of_ble_eq_true rfl⟩) (fun U g mk a h => ⟨h.1, va_K.moved (u := U) (U := U.calling g mk a) (Vm.Alike.refl U.vm) h.2⟩) (va_recv hK hP (ci := 0) (q0 := 1) rfl rfl) (fun U hU hW => ⟨by rw [hU]; exact (hP.sub [1] rfl), va_K.moved hW.alike (hK.sub [] rfl)⟩) rfl hl.1 rfl (lv_room (Nat.le_of_ble_eq_true rfl)) d_C_isPairRight_6 ⟨Nat.zero_le _, Nat.zero_le _⟩ ?_
  refine lv_aload_n hx hb d_C_isPairRight_9 rfl (lv_at hl 0 rfl) ?_
  refine lv_aload_n hx hb d_C_isPairRight_10 rfl (lv_at hl 1 rfl) ?_
  refine va_get (D := (dC, dI)) (ci := 1) (v := .int (S 4 j)) (C := "DealtSecret$Participant") (T := T_P) (N := 9) hx hb hts i_P hown hK hP (6 + j) (w_part (hj)) rfl 0 (by decide) (hts _ k_65) (fun _ h9 => h9) rfl d_C_isPairRight_11 ?_
  refine x_i (y := nI (j + 1)) (hN) ?_
  refine ro_V (As := [.int (nI (j + 1))]) (rest := [.int (nI ((g0 ^ u0 % p0) * (h0 ^ v0 % p0) % p0))]) (b := (Z 0)) ⟨hx, hb, hml, hown, hts⟩ (c_C_publishedAt l dC dI Z cI cP p0 q0 g0 h0 S (j + 1) t0 (by omega) ht ht7 ok hC) (cwV 1 hts (al_V k_181 k_182 k_635 k_1 k_183) rfl rfl rfl (by decide +kernel) ⟨Nat.le_of_ble_eq_true rfl, Nat.le_of_ble_eq_true rfl⟩) (fun U g mk a h => ⟨h.1, va_K.moved (u := U) (U := U.calling g mk a) (Vm.Alike.refl U.vm) h.2⟩) (va_recv hK hP (ci := 2) (q0 := 0) rfl rfl) (fun U hU hW => ⟨by rw [hU]; exact hP, va_K.moved hW.alike hK⟩) rfl hl.1 rfl (lv_room (Nat.le_of_ble_eq_true rfl)) d_C_isPairRight_14 ⟨Nat.zero_le _, Nat.zero_le _⟩ ?_
  refine lv_icmp_ne (tgt := 24) hx hb d_C_isPairRight_17 (by decide) (fun c17 => ?_) (fun c17 => ?_)
  · have hne : ¬ (g0 ^ u0 % p0) * (h0 ^ v0 % p0) % p0 = mz_cp (fun k => nn (S 3 k)) (j + 1) 0 t0 % p0 := fun q => c17 (by rw [q])
    refine lv_iconst (v := 0) hx hb d_C_isPairRight_24 (by decide) ?_
    exact ro_z hx hb hr hlk d_C_isPairRight_25 (by first | rfl | exact mz_bn _) ((mz_bf hne).symm)
  · have heq : (g0 ^ u0 % p0) * (h0 ^ v0 % p0) % p0 = mz_cp (fun k => nn (S 3 k)) (j + 1) 0 t0 % p0 := (nI_eq (Nat.lt_trans (Nat.mod_lt _ (by omega)) okp) (Nat.lt_trans (Nat.mod_lt _ (by omega)) okp)).mp c17
    refine lv_iconst (v := 1) hx hb d_C_isPairRight_20 (by decide) ?_
    refine lv_goto (tgt := 25) hx hb d_C_isPairRight_21 (by decide) ?_
    exact ro_z hx hb hr hlk d_C_isPairRight_25 (by first | rfl | exact mz_bn _) ((mz_bt heq).symm)
set_option maxRecDepth 100000 in
set_option maxHeartbeats 4000000 in
/-- isShareRight(one): does its share fit -/
theorem c_C_isShareRight (l : Launch) (dC : Nat → ClassId) (dI : Nat → Nat → Nat) (Z : Nat → Nat) (cI cP : ClassId) (p0 q0 g0 h0 : Nat) (S : Nat → Nat → Int32) (j t0 : Nat) (hj : j < 7) (hN : S 4 j = nI (j + 1)) (hu : okN (S 5 j) q0) (hv : okN (S 6 j) q0) (ht : S 0 2 = nI t0) (ht7 : t0 ≤ 7) (ok : okG p0 q0 g0 h0) (hC : ∀ k, k < t0 → okN (S 3 k) p0) : Ro l y_C_isShareRight ws_C_isShareRight 4 95 [.ref (Z 0), .ref (Z (6 + j))] (bC dC dI Z cI cP p0 q0 g0 h0 S) (mz_b ((g0 ^ (nn (S 5 j)) % p0) * (h0 ^ (nn (S 6 j)) % p0) % p0 = mz_cp (fun k => nn (S 3 k)) (j + 1) 0 t0 % p0)) := by
  refine Met.ofW (cc := b_C_isShareRight) (maxL := 2) (ret := (some .boolean)) (by decide) rfl ?_
  intro p e s m args below meth c s₁ B hml hv
  obtain ⟨rfl, hP, hK⟩ := hv
  have hx := B.exec
  have hb := B.bytes
  have hr := B.returns
  have hts : ∀ w ∈ AL, w.before ([.ref (Z 0), .ref (Z (6 + j))] : List Value).toArray s = true := fun w h => atoms_spec (ws := ws_C_isShareRight) B.pre w (List.mem_cons_of_mem _ h)
  have hown : s.vm.findClass "DealtSecret" = some m.cls := findClass_of_methodNamed B.named
  have hlk := B.notSynchronized
  have hl := lv_entry ([.ref (Z 0), .ref (Z (6 + j))]) (n := 2) (Nat.le_of_ble_eq_true rfl)
  rw [lg_entry_eq]
  generalize (lg_sl ([.ref (Z 0), .ref (Z (6 + j))]) ++ List.replicate (2 - (lg_sl ([.ref (Z 0), .ref (Z (6 + j))])).length) Slot.unset).toArray = ls at hl ⊢
  have hl : lv_has ls 2 [(0, .ref (Z 0)), (1, .ref (Z (6 + j)))] := hl
  obtain ⟨okp2, okp, okq2, okq, okg, okh⟩ := id ok
  have hul := hu.lt
  have hvl := hv.lt
  refine lv_aload_n hx hb d_C_isShareRight_0 rfl (lv_at hl 0 rfl) ?_
  refine lv_aload_n hx hb d_C_isShareRight_1 rfl (lv_at hl 1 rfl) ?_
  refine lv_aload_n hx hb d_C_isShareRight_2 rfl (lv_at hl 1 rfl) ?_
  refine va_get (D := (dC, dI)) (ci := 1) (v := .int (S 5 j)) (C := "DealtSecret$Participant") (T := T_P) (N := 9) hx hb hts i_P hown hK hP (6 + j) (w_part (hj)) rfl 1 (by decide) (hts _ k_67) (fun _ h9 => h9) rfl d_C_isShareRight_3 ?_
  refine x_i (y := nI (nn (S 5 j))) (hu.eq) ?_
  refine lv_aload_n hx hb d_C_isShareRight_6 rfl (lv_at hl 1 rfl) ?_
  refine va_get (D := (dC, dI)) (ci := 1) (v := .int (S 6 j)) (C := "DealtSecret$Participant") (T := T_P) (N := 9) hx hb hts i_P hown hK hP (6 + j) (w_part (hj)) rfl 2 (by decide) (hts _ k_69) (fun _ h9 => h9) rfl d_C_isShareRight_7 ?_
  refine x_i (y := nI (nn (S 6 j))) (hv.eq) ?_
  refine ro_V (As := [.ref (Z (6 + j)), .int (nI (nn (S 5 j))), .int (nI (nn (S 6 j)))]) (rest := []) (b := (Z 0)) ⟨hx, hb, hml, hown, hts⟩ (c_C_isPairRight l dC dI Z cI cP p0 q0 g0 h0 S j (nn (S 5 j)) (nn (S 6 j)) t0 hj hN (by omega) (by omega) ht ht7 ok hC) (cwV 3 hts (al_V k_166 k_167 k_634 k_1 k_168) rfl rfl rfl (by decide +kernel) ⟨Nat.le_of_ble_eq_true rfl, Nat.le_of_ble_eq_true rfl⟩) (fun U g mk a h => ⟨h.1, va_K.moved (u := U) (U := U.calling g mk a) (Vm.Alike.refl U.vm) h.2⟩) (va_recv hK hP (ci := 2) (q0 := 0) rfl rfl) (fun U hU hW => ⟨by rw [hU]; exact hP, va_K.moved hW.alike hK⟩) rfl hl.1 rfl (lv_room (Nat.le_of_ble_eq_true rfl)) d_C_isShareRight_10 ⟨Nat.zero_le _, Nat.zero_le _⟩ ?_
  exact ro_z hx hb hr hlk d_C_isShareRight_13 (by first | rfl | exact mz_bn _) (rfl)
set_option maxRecDepth 100000 in
set_option maxHeartbeats 4000000 in
/-- complaints() -/
theorem c_C_complaints (l : Launch) (dC : Nat → ClassId) (dI : Nat → Nat → Nat) (Z : Nat → Nat) (cI cP : ClassId) (p0 q0 g0 h0 : Nat) (S : Nat → Nat → Int32) (n0 : Nat) (hn : S 0 1 = nI n0) (hn7 : n0 ≤ 7) : Ro l y_C_complaints ws_C_complaints 0 0 [.ref (Z 0)] (bC dC dI Z cI cP p0 q0 g0 h0 S) (nI (mz_ct (S 8) n0)) := by
  refine Met.ofW (cc := b_C_complaints) (maxL := 3) (ret := (some .int)) (by decide) rfl ?_
  intro p e s m args below meth c s₁ B hml hv
  obtain ⟨rfl, hP, hK⟩ := hv
  have hx := B.exec
  have hb := B.bytes
  have hr := B.returns
  have hts : ∀ w ∈ AL, w.before ([.ref (Z 0)] : List Value).toArray s = true := fun w h => atoms_spec (ws := ws_C_complaints) B.pre w (List.mem_cons_of_mem _ h)
  have hown : s.vm.findClass "DealtSecret" = some m.cls := findClass_of_methodNamed B.named
  have hlk := B.notSynchronized
  have hl := lv_entry ([.ref (Z 0)]) (n := 3) (Nat.le_of_ble_eq_true rfl)
  rw [lg_entry_eq]
  generalize (lg_sl ([.ref (Z 0)]) ++ List.replicate (3 - (lg_sl ([.ref (Z 0)])).length) Slot.unset).toArray = ls at hl ⊢
  have hl : lv_has ls 3 [(0, .ref (Z 0))] := hl
  have loop : ∀ (n j : Nat) (ls : Array Slot), n0 + 1 ≤ j + n → j ≤ n0 → lv_has ls 3 [(0, .ref (Z 0)), (1, .int (nI (mz_ct (S 8) j))), (2, .int (nI j))] → W p l e (headSpec ws_C_complaints { frames := 0, cells := 0, slots := 0, locals := 0 }).room s m [.ref (Z 0)].toArray below meth c s.heap [] 0 0 (MQ below (QcRead (nI (mz_ct (S 8) n0))) [.ref (Z 0)].toArray s 0 0 (fun _ => False)) (F0 m 4 ls []) := by
    intro n
    induction n with
    | zero =>
      intro j ls h1 h2
      omega
    | succ n ih =>
      intro j ls h1 h2 hl
      refine lv_iload_n hx hb d_C_complaints_4 rfl (lv_at hl 2 rfl) ?_
      refine lv_aload_n hx hb d_C_complaints_5 rfl (lv_at hl 0 rfl) ?_
      refine va_get (D := (dC, dI)) (ci := 2) (v := .int (S 0 1)) (C := "DealtSecret") (T := T_C) (N := 11) hx hb hts i_C hown hK hP 0 rfl rfl 6 (by decide) (hts _ k_107) (fun _ h9 => h9) rfl d_C_complaints_6 ?_
      refine x_i (y := nI n0) (hn) ?_
      refine lv_icmp_ge (tgt := 33) hx hb d_C_complaints_9 (by decide) (fun c9 => ?_) (fun c9 => ?_)
      · have hk : j = n0 := by
          rcases Nat.lt_or_ge j n0 with q | q
          · exact absurd c9 (nI_ge q (by omega))
          · omega
        subst hk
        refine lv_iload_n hx hb d_C_complaints_33 rfl (lv_at hl 1 rfl) ?_
        exact ro_i hx hb hr hlk d_C_complaints_34 (rfl)
      · have hk : j < n0 := by
          rcases Nat.lt_or_ge j n0 with q | q
          · exact q
          · exact absurd (nI_le q (by omega)) c9
        refine lv_aload_n hx hb d_C_complaints_12 rfl (lv_at hl 0 rfl) ?_
        refine va_get (D := (dC, dI)) (ci := 2) (v := .ref (Z 5)) (C := "DealtSecret") (T := T_C) (N := 11) hx hb hts i_C hown hK hP 0 rfl rfl 4 (by decide) (hts _ k_105) (fun _ h9 => h9) rfl d_C_complaints_13 ?_
        refine lv_iload_n hx hb d_C_complaints_16 rfl (lv_at hl 2 rfl) ?_
        refine va_aldq hx hb hK hP 5 1 rfl rfl (vp_in_nI (by omega) (by decide)) d_C_complaints_17 ?_
        refine x_v (y := .ref (Z (6 + j))) (by rw [nI_clamp (by omega)]; rfl) ?_
        refine va_get (D := (dC, dI)) (ci := 1) (v := .int (S 8 j)) (C := "DealtSecret$Participant") (T := T_P) (N := 9) hx hb hts i_P hown hK hP (6 + j) (w_part (by omega)) rfl 4 (by decide) (hts _ k_73) (fun _ h9 => h9) rfl d_C_complaints_18 ?_
        refine lv_if_eq (tgt := 27) hx hb d_C_complaints_21 (by decide) (fun c21 => ?_) (fun c21 => ?_)
        · refine lv_iinc (v := (nI (j + 1))) (lv' := [(2, .int (nI (j + 1))), (0, .ref (Z 0)), (1, .int (nI (mz_ct (S 8) j)))]) hx hb d_C_complaints_27 hl (k := 2) rfl (nI_1 j) (by decide) rfl (fun ls hl => ?_)
          refine lv_goto (tgt := 4) hx hb d_C_complaints_30 (by decide) ?_
          exact ih (j + 1) ls (by omega) (by omega) (by rw [mz_ct_0 c21]; exact lv_sub hl [1, 2, 0] rfl)
        · refine lv_iinc (v := (nI (mz_ct (S 8) (j + 1)))) (lv' := [(1, .int (nI (mz_ct (S 8) (j + 1)))), (0, .ref (Z 0)), (2, .int (nI j))]) hx hb d_C_complaints_24 hl (k := 1) rfl ((nI_1 _).trans (by rw [mz_ct_1 c21])) (by decide) rfl (fun ls hl => ?_)
          refine lv_iinc (v := (nI (j + 1))) (lv' := [(2, .int (nI (j + 1))), (1, .int (nI (mz_ct (S 8) (j + 1)))), (0, .ref (Z 0))]) hx hb d_C_complaints_27 hl (k := 2) rfl (nI_1 j) (by decide) rfl (fun ls hl => ?_)
          refine lv_goto (tgt := 4) hx hb d_C_complaints_30 (by decide) ?_
          exact ih (j + 1) ls (by omega) (by omega) (lv_sub hl [2, 1, 0] rfl)
  refine lv_iconst (v := (nI (mz_ct (S 8) 0))) hx hb d_C_complaints_0 (by rfl) ?_
  refine lv_istore_n (lv' := [(1, .int (nI (mz_ct (S 8) 0))), (0, .ref (Z 0))]) hx hb d_C_complaints_1 rfl hl (by decide) rfl (fun ls hl => ?_)
  refine lv_iconst (v := (nI 0)) hx hb d_C_complaints_2 (by decide) ?_
  refine lv_istore_n (lv' := [(2, .int (nI 0)), (1, .int (nI (mz_ct (S 8) 0))), (0, .ref (Z 0))]) hx hb d_C_complaints_3 rfl hl (by decide) rfl (fun ls hl => ?_)
  exact loop (n0 + 1) 0 ls (by omega) (by omega) (lv_sub hl [2, 1, 0] rfl)
set_option maxRecDepth 100000 in
set_option maxHeartbeats 4000000 in
/-- opened() -/
theorem c_C_opened (l : Launch) (dC : Nat → ClassId) (dI : Nat → Nat → Nat) (Z : Nat → Nat) (cI cP : ClassId) (p0 q0 g0 h0 : Nat) (S : Nat → Nat → Int32) (n0 : Nat) (hn : S 0 1 = nI n0) (hn7 : n0 ≤ 7) : Ro l y_C_opened ws_C_opened 0 0 [.ref (Z 0)] (bC dC dI Z cI cP p0 q0 g0 h0 S) (nI (mz_ct (S 10) n0)) := by
  refine Met.ofW (cc := b_C_opened) (maxL := 3) (ret := (some .int)) (by decide) rfl ?_
  intro p e s m args below meth c s₁ B hml hv
  obtain ⟨rfl, hP, hK⟩ := hv
  have hx := B.exec
  have hb := B.bytes
  have hr := B.returns
  have hts : ∀ w ∈ AL, w.before ([.ref (Z 0)] : List Value).toArray s = true := fun w h => atoms_spec (ws := ws_C_opened) B.pre w (List.mem_cons_of_mem _ h)
  have hown : s.vm.findClass "DealtSecret" = some m.cls := findClass_of_methodNamed B.named
  have hlk := B.notSynchronized
  have hl := lv_entry ([.ref (Z 0)]) (n := 3) (Nat.le_of_ble_eq_true rfl)
  rw [lg_entry_eq]
  generalize (lg_sl ([.ref (Z 0)]) ++ List.replicate (3 - (lg_sl ([.ref (Z 0)])).length) Slot.unset).toArray = ls at hl ⊢
  have hl : lv_has ls 3 [(0, .ref (Z 0))] := hl
  have loop : ∀ (n j : Nat) (ls : Array Slot), n0 + 1 ≤ j + n → j ≤ n0 → lv_has ls 3 [(0, .ref (Z 0)), (1, .int (nI (mz_ct (S 10) j))), (2, .int (nI j))] → W p l e (headSpec ws_C_opened { frames := 0, cells := 0, slots := 0, locals := 0 }).room s m [.ref (Z 0)].toArray below meth c s.heap [] 0 0 (MQ below (QcRead (nI (mz_ct (S 10) n0))) [.ref (Z 0)].toArray s 0 0 (fun _ => False)) (F0 m 4 ls []) := by
    intro n
    induction n with
    | zero =>
      intro j ls h1 h2
      omega
    | succ n ih =>
      intro j ls h1 h2 hl
      refine lv_iload_n hx hb d_C_opened_4 rfl (lv_at hl 2 rfl) ?_
      refine lv_aload_n hx hb d_C_opened_5 rfl (lv_at hl 0 rfl) ?_
      refine va_get (D := (dC, dI)) (ci := 2) (v := .int (S 0 1)) (C := "DealtSecret") (T := T_C) (N := 11) hx hb hts i_C hown hK hP 0 rfl rfl 6 (by decide) (hts _ k_107) (fun _ h9 => h9) rfl d_C_opened_6 ?_
      refine x_i (y := nI n0) (hn) ?_
      refine lv_icmp_ge (tgt := 33) hx hb d_C_opened_9 (by decide) (fun c9 => ?_) (fun c9 => ?_)
      · have hk : j = n0 := by
          rcases Nat.lt_or_ge j n0 with q | q
          · exact absurd c9 (nI_ge q (by omega))
          · omega
        subst hk
        refine lv_iload_n hx hb d_C_opened_33 rfl (lv_at hl 1 rfl) ?_
        exact ro_i hx hb hr hlk d_C_opened_34 (rfl)
      · have hk : j < n0 := by
          rcases Nat.lt_or_ge j n0 with q | q
          · exact q
          · exact absurd (nI_le q (by omega)) c9
        refine lv_aload_n hx hb d_C_opened_12 rfl (lv_at hl 0 rfl) ?_
        refine va_get (D := (dC, dI)) (ci := 2) (v := .ref (Z 5)) (C := "DealtSecret") (T := T_C) (N := 11) hx hb hts i_C hown hK hP 0 rfl rfl 4 (by decide) (hts _ k_105) (fun _ h9 => h9) rfl d_C_opened_13 ?_
        refine lv_iload_n hx hb d_C_opened_16 rfl (lv_at hl 2 rfl) ?_
        refine va_aldq hx hb hK hP 5 1 rfl rfl (vp_in_nI (by omega) (by decide)) d_C_opened_17 ?_
        refine x_v (y := .ref (Z (6 + j))) (by rw [nI_clamp (by omega)]; rfl) ?_
        refine va_get (D := (dC, dI)) (ci := 1) (v := .int (S 10 j)) (C := "DealtSecret$Participant") (T := T_P) (N := 9) hx hb hts i_P hown hK hP (6 + j) (w_part (by omega)) rfl 6 (by decide) (hts _ k_77) (fun _ h9 => h9) rfl d_C_opened_18 ?_
        refine lv_if_eq (tgt := 27) hx hb d_C_opened_21 (by decide) (fun c21 => ?_) (fun c21 => ?_)
        · refine lv_iinc (v := (nI (j + 1))) (lv' := [(2, .int (nI (j + 1))), (0, .ref (Z 0)), (1, .int (nI (mz_ct (S 10) j)))]) hx hb d_C_opened_27 hl (k := 2) rfl (nI_1 j) (by decide) rfl (fun ls hl => ?_)
          refine lv_goto (tgt := 4) hx hb d_C_opened_30 (by decide) ?_
          exact ih (j + 1) ls (by omega) (by omega) (by rw [mz_ct_0 c21]; exact lv_sub hl [1, 2, 0] rfl)
        · refine lv_iinc (v := (nI (mz_ct (S 10) (j + 1)))) (lv' := [(1, .int (nI (mz_ct (S 10) (j + 1)))), (0, .ref (Z 0)), (2, .int (nI j))]) hx hb d_C_opened_24 hl (k := 1) rfl ((nI_1 _).trans (by rw [mz_ct_1 c21])) (by decide) rfl (fun ls hl => ?_)
          refine lv_iinc (v := (nI (j + 1))) (lv' := [(2, .int (nI (j + 1))), (1, .int (nI (mz_ct (S 10) (j + 1)))), (0, .ref (Z 0))]) hx hb d_C_opened_27 hl (k := 2) rfl (nI_1 j) (by decide) rfl (fun ls hl => ?_)
          refine lv_goto (tgt := 4) hx hb d_C_opened_30 (by decide) ?_
          exact ih (j + 1) ls (by omega) (by omega) (lv_sub hl [2, 1, 0] rfl)
  refine lv_iconst (v := (nI (mz_ct (S 10) 0))) hx hb d_C_opened_0 (by rfl) ?_
  refine lv_istore_n (lv' := [(1, .int (nI (mz_ct (S 10) 0))), (0, .ref (Z 0))]) hx hb d_C_opened_1 rfl hl (by decide) rfl (fun ls hl => ?_)
  refine lv_iconst (v := (nI 0)) hx hb d_C_opened_2 (by decide) ?_
  refine lv_istore_n (lv' := [(2, .int (nI 0)), (1, .int (nI (mz_ct (S 10) 0))), (0, .ref (Z 0))]) hx hb d_C_opened_3 rfl hl (by decide) rfl (fun ls hl => ?_)
  exact loop (n0 + 1) 0 ls (by omega) (by omega) (lv_sub hl [2, 1, 0] rfl)
end
section
/-! the worlds behind one write -/
theorem w_pt0 {Z : Nat → Nat} {cI cP : ClassId} {p0 q0 g0 h0 : Nat} {S : Nat → Nat → Int32} {j : Nat} {v : Int32} (hj : j < 7) : (wC Z cI cP p0 q0 g0 h0 S).set (6 + j) (Z (6 + j), .inr (1, (fP S j).set 0 (.int v))) = wC Z cI cP p0 q0 g0 h0 (up S 4 j v) := by
  have e : (Z (6 + j), (.inr (1, (fP S j).set 0 (.int v)) : va_E)) = (fun i => (Z (6 + i), (.inr (1, fP (up S 4 j v) i) : va_E))) j := by
    simp [fP, up]
  rw [e]
  exact w_set (X := wX Z cI cP p0 q0 g0 h0 S) (f := fun i => (Z (6 + i), .inr (1, fP S i))) (f' := fun i => (Z (6 + i), .inr (1, fP (up S 4 j v) i))) hj (fun i _ hne => by simp [fP, up, hne])
theorem w_pt1 {Z : Nat → Nat} {cI cP : ClassId} {p0 q0 g0 h0 : Nat} {S : Nat → Nat → Int32} {j : Nat} {v : Int32} (hj : j < 7) : (wC Z cI cP p0 q0 g0 h0 S).set (6 + j) (Z (6 + j), .inr (1, (fP S j).set 1 (.int v))) = wC Z cI cP p0 q0 g0 h0 (up S 5 j v) := by
  have e : (Z (6 + j), (.inr (1, (fP S j).set 1 (.int v)) : va_E)) = (fun i => (Z (6 + i), (.inr (1, fP (up S 5 j v) i) : va_E))) j := by
    simp [fP, up]
  rw [e]
  exact w_set (X := wX Z cI cP p0 q0 g0 h0 S) (f := fun i => (Z (6 + i), .inr (1, fP S i))) (f' := fun i => (Z (6 + i), .inr (1, fP (up S 5 j v) i))) hj (fun i _ hne => by simp [fP, up, hne])
theorem w_pt2 {Z : Nat → Nat} {cI cP : ClassId} {p0 q0 g0 h0 : Nat} {S : Nat → Nat → Int32} {j : Nat} {v : Int32} (hj : j < 7) : (wC Z cI cP p0 q0 g0 h0 S).set (6 + j) (Z (6 + j), .inr (1, (fP S j).set 2 (.int v))) = wC Z cI cP p0 q0 g0 h0 (up S 6 j v) := by
  have e : (Z (6 + j), (.inr (1, (fP S j).set 2 (.int v)) : va_E)) = (fun i => (Z (6 + i), (.inr (1, fP (up S 6 j v) i) : va_E))) j := by
    simp [fP, up]
  rw [e]
  exact w_set (X := wX Z cI cP p0 q0 g0 h0 S) (f := fun i => (Z (6 + i), .inr (1, fP S i))) (f' := fun i => (Z (6 + i), .inr (1, fP (up S 6 j v) i))) hj (fun i _ hne => by simp [fP, up, hne])
theorem w_pt3 {Z : Nat → Nat} {cI cP : ClassId} {p0 q0 g0 h0 : Nat} {S : Nat → Nat → Int32} {j : Nat} {v : Int32} (hj : j < 7) : (wC Z cI cP p0 q0 g0 h0 S).set (6 + j) (Z (6 + j), .inr (1, (fP S j).set 3 (.int v))) = wC Z cI cP p0 q0 g0 h0 (up S 7 j v) := by
  have e : (Z (6 + j), (.inr (1, (fP S j).set 3 (.int v)) : va_E)) = (fun i => (Z (6 + i), (.inr (1, fP (up S 7 j v) i) : va_E))) j := by
    simp [fP, up]
  rw [e]
  exact w_set (X := wX Z cI cP p0 q0 g0 h0 S) (f := fun i => (Z (6 + i), .inr (1, fP S i))) (f' := fun i => (Z (6 + i), .inr (1, fP (up S 7 j v) i))) hj (fun i _ hne => by simp [fP, up, hne])
theorem w_pt4 {Z : Nat → Nat} {cI cP : ClassId} {p0 q0 g0 h0 : Nat} {S : Nat → Nat → Int32} {j : Nat} {v : Int32} (hj : j < 7) : (wC Z cI cP p0 q0 g0 h0 S).set (6 + j) (Z (6 + j), .inr (1, (fP S j).set 4 (.int v))) = wC Z cI cP p0 q0 g0 h0 (up S 8 j v) := by
  have e : (Z (6 + j), (.inr (1, (fP S j).set 4 (.int v)) : va_E)) = (fun i => (Z (6 + i), (.inr (1, fP (up S 8 j v) i) : va_E))) j := by
    simp [fP, up]
  rw [e]
  exact w_set (X := wX Z cI cP p0 q0 g0 h0 S) (f := fun i => (Z (6 + i), .inr (1, fP S i))) (f' := fun i => (Z (6 + i), .inr (1, fP (up S 8 j v) i))) hj (fun i _ hne => by simp [fP, up, hne])
theorem w_pt5 {Z : Nat → Nat} {cI cP : ClassId} {p0 q0 g0 h0 : Nat} {S : Nat → Nat → Int32} {j : Nat} {v : Int32} (hj : j < 7) : (wC Z cI cP p0 q0 g0 h0 S).set (6 + j) (Z (6 + j), .inr (1, (fP S j).set 5 (.int v))) = wC Z cI cP p0 q0 g0 h0 (up S 9 j v) := by
  have e : (Z (6 + j), (.inr (1, (fP S j).set 5 (.int v)) : va_E)) = (fun i => (Z (6 + i), (.inr (1, fP (up S 9 j v) i) : va_E))) j := by
    simp [fP, up]
  rw [e]
  exact w_set (X := wX Z cI cP p0 q0 g0 h0 S) (f := fun i => (Z (6 + i), .inr (1, fP S i))) (f' := fun i => (Z (6 + i), .inr (1, fP (up S 9 j v) i))) hj (fun i _ hne => by simp [fP, up, hne])
theorem w_pt6 {Z : Nat → Nat} {cI cP : ClassId} {p0 q0 g0 h0 : Nat} {S : Nat → Nat → Int32} {j : Nat} {v : Int32} (hj : j < 7) : (wC Z cI cP p0 q0 g0 h0 S).set (6 + j) (Z (6 + j), .inr (1, (fP S j).set 6 (.int v))) = wC Z cI cP p0 q0 g0 h0 (up S 10 j v) := by
  have e : (Z (6 + j), (.inr (1, (fP S j).set 6 (.int v)) : va_E)) = (fun i => (Z (6 + i), (.inr (1, fP (up S 10 j v) i) : va_E))) j := by
    simp [fP, up]
  rw [e]
  exact w_set (X := wX Z cI cP p0 q0 g0 h0 S) (f := fun i => (Z (6 + i), .inr (1, fP S i))) (f' := fun i => (Z (6 + i), .inr (1, fP (up S 10 j v) i))) hj (fun i _ hne => by simp [fP, up, hne])
theorem w_pt7 {Z : Nat → Nat} {cI cP : ClassId} {p0 q0 g0 h0 : Nat} {S : Nat → Nat → Int32} {j : Nat} {v : Int32} (hj : j < 7) : (wC Z cI cP p0 q0 g0 h0 S).set (6 + j) (Z (6 + j), .inr (1, (fP S j).set 7 (.int v))) = wC Z cI cP p0 q0 g0 h0 (up S 11 j v) := by
  have e : (Z (6 + j), (.inr (1, (fP S j).set 7 (.int v)) : va_E)) = (fun i => (Z (6 + i), (.inr (1, fP (up S 11 j v) i) : va_E))) j := by
    simp [fP, up]
  rw [e]
  exact w_set (X := wX Z cI cP p0 q0 g0 h0 S) (f := fun i => (Z (6 + i), .inr (1, fP S i))) (f' := fun i => (Z (6 + i), .inr (1, fP (up S 11 j v) i))) hj (fun i _ hne => by simp [fP, up, hne])
theorem w_pt8 {Z : Nat → Nat} {cI cP : ClassId} {p0 q0 g0 h0 : Nat} {S : Nat → Nat → Int32} {j : Nat} {v : Int32} (hj : j < 7) : (wC Z cI cP p0 q0 g0 h0 S).set (6 + j) (Z (6 + j), .inr (1, (fP S j).set 8 (.int v))) = wC Z cI cP p0 q0 g0 h0 (up S 12 j v) := by
  have e : (Z (6 + j), (.inr (1, (fP S j).set 8 (.int v)) : va_E)) = (fun i => (Z (6 + i), (.inr (1, fP (up S 12 j v) i) : va_E))) j := by
    simp [fP, up]
  rw [e]
  exact w_set (X := wX Z cI cP p0 q0 g0 h0 S) (f := fun i => (Z (6 + i), .inr (1, fP S i))) (f' := fun i => (Z (6 + i), .inr (1, fP (up S 12 j v) i))) hj (fun i _ hne => by simp [fP, up, hne])
theorem w_adC {Z : Nat → Nat} {cI cP : ClassId} {p0 q0 g0 h0 : Nat} (S S1 : Nat → Nat → Int32) : (wC Z cI cP p0 q0 g0 h0 S1).map Prod.fst = (wC Z cI cP p0 q0 g0 h0 S).map Prod.fst := rfl
theorem w_adM {Y : Nat → Nat} {cI cZ : ClassId} {p0 q0 g0 h0 : Nat} (S S1 : Nat → Nat → Int32) : (wM Y cI cZ p0 q0 g0 h0 S1).map Prod.fst = (wM Y cI cZ p0 q0 g0 h0 S).map Prod.fst := rfl
theorem mz_bfit (P : Prop) : fits .boolean (.int (mz_b P)) = true := by
  rcases mz_b01 P with h | h <;> rw [h] <;> rfl
/-- a participant starts anew, gets a share, its pair is kept -/
abbrev stA (S : Nat → Nat → Int32) (j : Nat) : Nat → Nat → Int32 := up (up (up (up S 7 j 0) 8 j 0) 9 j 0) 10 j 0
abbrev rcv (S : Nat → Nat → Int32) (j : Nat) (u v : Int32) : Nat → Nat → Int32 := up (up S 5 j u) 6 j v
abbrev kpt (S : Nat → Nat → Int32) (j : Nat) (u v : Int32) : Nat → Nat → Int32 := up (up (up S 10 j 1) 11 j u) 12 j v
end
section
set_option maxRecDepth 100000 in
set_option maxHeartbeats 4000000 in
/-- startAnew() -/
theorem c_P_startAnew (l : Launch) (dC : Nat → ClassId) (dI : Nat → Nat → Nat) (Z : Nat → Nat) (cI cP : ClassId) (p0 q0 g0 h0 : Nat) (S : Nat → Nat → Int32) (j : Nat) (hj : j < 7) : Wr l y_P_startAnew ws_P_startAnew 0 0 [.ref (Z (6 + j))] (dC, dI) cls (tysC cI cP) (wC Z cI cP p0 q0 g0 h0 (S)) (wC Z cI cP p0 q0 g0 h0 (stA S j)) (none) := by
  refine Met.ofW (cc := b_P_startAnew) (maxL := 1) (ret := none) (by decide) rfl ?_
  intro p e s m args below meth c s₁ B hml hv
  obtain ⟨rfl, hP, hK, hD0⟩ := hv
  have hx := B.exec
  have hb := B.bytes
  have hr := B.returns
  have hts : ∀ w ∈ AL, w.before ([.ref (Z (6 + j))] : List Value).toArray s = true := fun w h => atoms_spec (ws := ws_P_startAnew) B.pre w (List.mem_cons_of_mem _ h)
  have hown : s.vm.findClass "DealtSecret$Participant" = some m.cls := findClass_of_methodNamed B.named
  have hlk := B.notSynchronized
  have hl := lv_entry ([.ref (Z (6 + j))]) (n := 1) (Nat.le_of_ble_eq_true rfl)
  rw [lg_entry_eq]
  generalize (lg_sl ([.ref (Z (6 + j))]) ++ List.replicate (1 - (lg_sl ([.ref (Z (6 + j))])).length) Slot.unset).toArray = ls at hl ⊢
  have hl : lv_has ls 1 [(0, .ref (Z (6 + j)))] := hl
  have hD := w_self hD0
  have hS : va_S (w_A (wC Z cI cP p0 q0 g0 h0 (S))) s.heap s.heap [] := va_S.rf
  refine lv_aload_n hx hb d_P_startAnew_0 rfl (lv_at hl 0 rfl) ?_
  refine lv_iconst (v := 0) hx hb d_P_startAnew_1 (by decide) ?_
  refine va_put (D := (dC, dI)) (ci := 1) (v := .int 0) (ty := .boolean) (C := "DealtSecret$Participant") (T := T_P) (N := 9) hx hb hts i_P t_P t_P_ok n_P hown hK hP hD hS (6 + j) (w_part (hj)) rfl 3 (by decide) (hts _ k_70) (fun _ h9 => h9) rfl (by decide +kernel) (rfl) (rfl) (Nat.le_of_ble_eq_true rfl) d_P_startAnew_2 (fun H locs hP hD hS => ?_)
  have hP : va_P (dC, dI) cls (wC Z cI cP p0 q0 g0 h0 (up S 7 j 0)) H := by rw [← w_pt3 (hj)]; exact hP
  have hD : va_D (w_A (wC Z cI cP p0 q0 g0 h0 (S))) (wC Z cI cP p0 q0 g0 h0 (up S 7 j 0)) := by rw [← w_pt3 (hj)]; exact hD
  refine lv_aload_n hx hb d_P_startAnew_5 rfl (lv_at hl 0 rfl) ?_
  refine lv_iconst (v := 0) hx hb d_P_startAnew_6 (by decide) ?_
  refine va_put (D := (dC, dI)) (ci := 1) (v := .int 0) (ty := .boolean) (C := "DealtSecret$Participant") (T := T_P) (N := 9) hx hb hts i_P t_P t_P_ok n_P hown hK hP hD hS (6 + j) (w_part (hj)) rfl 4 (by decide) (hts _ k_72) (fun _ h9 => h9) rfl (by decide +kernel) (rfl) (rfl) (Nat.le_of_ble_eq_true rfl) d_P_startAnew_7 (fun H locs hP hD hS => ?_)
  have hP : va_P (dC, dI) cls (wC Z cI cP p0 q0 g0 h0 (up (up S 7 j 0) 8 j 0)) H := by rw [← w_pt4 (hj)]; exact hP
  have hD : va_D (w_A (wC Z cI cP p0 q0 g0 h0 (S))) (wC Z cI cP p0 q0 g0 h0 (up (up S 7 j 0) 8 j 0)) := by rw [← w_pt4 (hj)]; exact hD
  refine lv_aload_n hx hb d_P_startAnew_10 rfl (lv_at hl 0 rfl) ?_
  refine lv_iconst (v := 0) hx hb d_P_startAnew_11 (by decide) ?_
  refine va_put (D := (dC, dI)) (ci := 1) (v := .int 0) (ty := .boolean) (C := "DealtSecret$Participant") (T := T_P) (N := 9) hx hb hts i_P t_P t_P_ok n_P hown hK hP hD hS (6 + j) (w_part (hj)) rfl 5 (by decide) (hts _ k_74) (fun _ h9 => h9) rfl (by decide +kernel) (rfl) (rfl) (Nat.le_of_ble_eq_true rfl) d_P_startAnew_12 (fun H locs hP hD hS => ?_)
  have hP : va_P (dC, dI) cls (wC Z cI cP p0 q0 g0 h0 (up (up (up S 7 j 0) 8 j 0) 9 j 0)) H := by rw [← w_pt5 (hj)]; exact hP
  have hD : va_D (w_A (wC Z cI cP p0 q0 g0 h0 (S))) (wC Z cI cP p0 q0 g0 h0 (up (up (up S 7 j 0) 8 j 0) 9 j 0)) := by rw [← w_pt5 (hj)]; exact hD
  refine lv_aload_n hx hb d_P_startAnew_15 rfl (lv_at hl 0 rfl) ?_
  refine lv_iconst (v := 0) hx hb d_P_startAnew_16 (by decide) ?_
  refine va_put (D := (dC, dI)) (ci := 1) (v := .int 0) (ty := .boolean) (C := "DealtSecret$Participant") (T := T_P) (N := 9) hx hb hts i_P t_P t_P_ok n_P hown hK hP hD hS (6 + j) (w_part (hj)) rfl 6 (by decide) (hts _ k_76) (fun _ h9 => h9) rfl (by decide +kernel) (rfl) (rfl) (Nat.le_of_ble_eq_true rfl) d_P_startAnew_17 (fun H locs hP hD hS => ?_)
  have hP : va_P (dC, dI) cls (wC Z cI cP p0 q0 g0 h0 (up (up (up (up S 7 j 0) 8 j 0) 9 j 0) 10 j 0)) H := by rw [← w_pt6 (hj)]; exact hP
  have hD : va_D (w_A (wC Z cI cP p0 q0 g0 h0 (S))) (wC Z cI cP p0 q0 g0 h0 (up (up (up (up S 7 j 0) 8 j 0) 9 j 0) 10 j 0)) := by rw [← w_pt6 (hj)]; exact hD
  exact wr_v hx hb hr hlk hP hS d_P_startAnew_20
set_option maxRecDepth 100000 in
set_option maxHeartbeats 4000000 in
/-- receive(u, v) -/
theorem c_P_receive (l : Launch) (dC : Nat → ClassId) (dI : Nat → Nat → Nat) (Z : Nat → Nat) (cI cP : ClassId) (p0 q0 g0 h0 : Nat) (S : Nat → Nat → Int32) (j : Nat) (hj : j < 7) (u0 v0 : Int32) : Wr l y_P_receive ws_P_receive 0 0 [.ref (Z (6 + j)), .int u0, .int v0] (dC, dI) cls (tysC cI cP) (wC Z cI cP p0 q0 g0 h0 (S)) (wC Z cI cP p0 q0 g0 h0 (rcv S j u0 v0)) (none) := by
  refine Met.ofW (cc := b_P_receive) (maxL := 3) (ret := none) (by decide) rfl ?_
  intro p e s m args below meth c s₁ B hml hv
  obtain ⟨rfl, hP, hK, hD0⟩ := hv
  have hx := B.exec
  have hb := B.bytes
  have hr := B.returns
  have hts : ∀ w ∈ AL, w.before ([.ref (Z (6 + j)), .int u0, .int v0] : List Value).toArray s = true := fun w h => atoms_spec (ws := ws_P_receive) B.pre w (List.mem_cons_of_mem _ h)
  have hown : s.vm.findClass "DealtSecret$Participant" = some m.cls := findClass_of_methodNamed B.named
  have hlk := B.notSynchronized
  have hl := lv_entry ([.ref (Z (6 + j)), .int u0, .int v0]) (n := 3) (Nat.le_of_ble_eq_true rfl)
  rw [lg_entry_eq]
  generalize (lg_sl ([.ref (Z (6 + j)), .int u0, .int v0]) ++ List.replicate (3 - (lg_sl ([.ref (Z (6 + j)), .int u0, .int v0])).length) Slot.unset).toArray = ls at hl ⊢
  have hl : lv_has ls 3 [(0, .ref (Z (6 + j))), (1, .int u0), (2, .int v0)] := hl
  have hD := w_self hD0
  have hS : va_S (w_A (wC Z cI cP p0 q0 g0 h0 (S))) s.heap s.heap [] := va_S.rf
  refine lv_aload_n hx hb d_P_receive_0 rfl (lv_at hl 0 rfl) ?_
  refine lv_iload_n hx hb d_P_receive_1 rfl (lv_at hl 1 rfl) ?_
  refine va_put (D := (dC, dI)) (ci := 1) (v := .int u0) (ty := .int) (C := "DealtSecret$Participant") (T := T_P) (N := 9) hx hb hts i_P t_P t_P_ok n_P hown hK hP hD hS (6 + j) (w_part (hj)) rfl 1 (by decide) (hts _ k_66) (fun _ h9 => h9) rfl (by decide +kernel) (rfl) (rfl) (Nat.le_of_ble_eq_true rfl) d_P_receive_2 (fun H locs hP hD hS => ?_)
  have hP : va_P (dC, dI) cls (wC Z cI cP p0 q0 g0 h0 (up S 5 j u0)) H := by rw [← w_pt1 (hj)]; exact hP
  have hD : va_D (w_A (wC Z cI cP p0 q0 g0 h0 (S))) (wC Z cI cP p0 q0 g0 h0 (up S 5 j u0)) := by rw [← w_pt1 (hj)]; exact hD
  refine lv_aload_n hx hb d_P_receive_5 rfl (lv_at hl 0 rfl) ?_
  refine lv_iload_n hx hb d_P_receive_6 rfl (lv_at hl 2 rfl) ?_
  refine va_put (D := (dC, dI)) (ci := 1) (v := .int v0) (ty := .int) (C := "DealtSecret$Participant") (T := T_P) (N := 9) hx hb hts i_P t_P t_P_ok n_P hown hK hP hD hS (6 + j) (w_part (hj)) rfl 2 (by decide) (hts _ k_68) (fun _ h9 => h9) rfl (by decide +kernel) (rfl) (rfl) (Nat.le_of_ble_eq_true rfl) d_P_receive_7 (fun H locs hP hD hS => ?_)
  have hP : va_P (dC, dI) cls (wC Z cI cP p0 q0 g0 h0 (up (up S 5 j u0) 6 j v0)) H := by rw [← w_pt2 (hj)]; exact hP
  have hD : va_D (w_A (wC Z cI cP p0 q0 g0 h0 (S))) (wC Z cI cP p0 q0 g0 h0 (up (up S 5 j u0) 6 j v0)) := by rw [← w_pt2 (hj)]; exact hD
  exact wr_v hx hb hr hlk hP hS d_P_receive_10
set_option maxRecDepth 100000 in
set_option maxHeartbeats 4000000 in
/-- keep(u, v) -/
theorem c_P_keep (l : Launch) (dC : Nat → ClassId) (dI : Nat → Nat → Nat) (Z : Nat → Nat) (cI cP : ClassId) (p0 q0 g0 h0 : Nat) (S : Nat → Nat → Int32) (j : Nat) (hj : j < 7) (u0 v0 : Int32) : Wr l y_P_keep ws_P_keep 0 0 [.ref (Z (6 + j)), .int u0, .int v0] (dC, dI) cls (tysC cI cP) (wC Z cI cP p0 q0 g0 h0 (S)) (wC Z cI cP p0 q0 g0 h0 (kpt S j u0 v0)) (none) := by
  refine Met.ofW (cc := b_P_keep) (maxL := 3) (ret := none) (by decide) rfl ?_
  intro p e s m args below meth c s₁ B hml hv
  obtain ⟨rfl, hP, hK, hD0⟩ := hv
  have hx := B.exec
  have hb := B.bytes
  have hr := B.returns
  have hts : ∀ w ∈ AL, w.before ([.ref (Z (6 + j)), .int u0, .int v0] : List Value).toArray s = true := fun w h => atoms_spec (ws := ws_P_keep) B.pre w (List.mem_cons_of_mem _ h)
  have hown : s.vm.findClass "DealtSecret$Participant" = some m.cls := findClass_of_methodNamed B.named
  have hlk := B.notSynchronized
  have hl := lv_entry ([.ref (Z (6 + j)), .int u0, .int v0]) (n := 3) (Nat.le_of_ble_eq_true rfl)
  rw [lg_entry_eq]
  generalize (lg_sl ([.ref (Z (6 + j)), .int u0, .int v0]) ++ List.replicate (3 - (lg_sl ([.ref (Z (6 + j)), .int u0, .int v0])).length) Slot.unset).toArray = ls at hl ⊢
  have hl : lv_has ls 3 [(0, .ref (Z (6 + j))), (1, .int u0), (2, .int v0)] := hl
  have hD := w_self hD0
  have hS : va_S (w_A (wC Z cI cP p0 q0 g0 h0 (S))) s.heap s.heap [] := va_S.rf
  refine lv_aload_n hx hb d_P_keep_0 rfl (lv_at hl 0 rfl) ?_
  refine lv_iconst (v := 1) hx hb d_P_keep_1 (by decide) ?_
  refine va_put (D := (dC, dI)) (ci := 1) (v := .int 1) (ty := .boolean) (C := "DealtSecret$Participant") (T := T_P) (N := 9) hx hb hts i_P t_P t_P_ok n_P hown hK hP hD hS (6 + j) (w_part (hj)) rfl 6 (by decide) (hts _ k_76) (fun _ h9 => h9) rfl (by decide +kernel) (rfl) (rfl) (Nat.le_of_ble_eq_true rfl) d_P_keep_2 (fun H locs hP hD hS => ?_)
  have hP : va_P (dC, dI) cls (wC Z cI cP p0 q0 g0 h0 (up S 10 j 1)) H := by rw [← w_pt6 (hj)]; exact hP
  have hD : va_D (w_A (wC Z cI cP p0 q0 g0 h0 (S))) (wC Z cI cP p0 q0 g0 h0 (up S 10 j 1)) := by rw [← w_pt6 (hj)]; exact hD
  refine lv_aload_n hx hb d_P_keep_5 rfl (lv_at hl 0 rfl) ?_
  refine lv_iload_n hx hb d_P_keep_6 rfl (lv_at hl 1 rfl) ?_
  refine va_put (D := (dC, dI)) (ci := 1) (v := .int u0) (ty := .int) (C := "DealtSecret$Participant") (T := T_P) (N := 9) hx hb hts i_P t_P t_P_ok n_P hown hK hP hD hS (6 + j) (w_part (hj)) rfl 7 (by decide) (hts _ k_78) (fun _ h9 => h9) rfl (by decide +kernel) (rfl) (rfl) (Nat.le_of_ble_eq_true rfl) d_P_keep_7 (fun H locs hP hD hS => ?_)
  have hP : va_P (dC, dI) cls (wC Z cI cP p0 q0 g0 h0 (up (up S 10 j 1) 11 j u0)) H := by rw [← w_pt7 (hj)]; exact hP
  have hD : va_D (w_A (wC Z cI cP p0 q0 g0 h0 (S))) (wC Z cI cP p0 q0 g0 h0 (up (up S 10 j 1) 11 j u0)) := by rw [← w_pt7 (hj)]; exact hD
  refine lv_aload_n hx hb d_P_keep_10 rfl (lv_at hl 0 rfl) ?_
  refine lv_iload_n hx hb d_P_keep_11 rfl (lv_at hl 2 rfl) ?_
  refine va_put (D := (dC, dI)) (ci := 1) (v := .int v0) (ty := .int) (C := "DealtSecret$Participant") (T := T_P) (N := 9) hx hb hts i_P t_P t_P_ok n_P hown hK hP hD hS (6 + j) (w_part (hj)) rfl 8 (by decide) (hts _ k_80) (fun _ h9 => h9) rfl (by decide +kernel) (rfl) (rfl) (Nat.le_of_ble_eq_true rfl) d_P_keep_12 (fun H locs hP hD hS => ?_)
  have hP : va_P (dC, dI) cls (wC Z cI cP p0 q0 g0 h0 (up (up (up S 10 j 1) 11 j u0) 12 j v0)) H := by rw [← w_pt8 (hj)]; exact hP
  have hD : va_D (w_A (wC Z cI cP p0 q0 g0 h0 (S))) (wC Z cI cP p0 q0 g0 h0 (up (up (up S 10 j 1) 11 j u0) 12 j v0)) := by rw [← w_pt8 (hj)]; exact hD
  exact wr_v hx hb hr hlk hP hS d_P_keep_15
end
section
/-- the commitments are published, the shares are sent, complaints are raised: for the first of them -/
def pubC (p0 g0 h0 : Nat) (S : Nat → Nat → Int32) : Nat → Nat → Nat → Int32
  | 0 => S
  | k + 1 => up (pubC p0 g0 h0 S k) 3 k (nI ((g0 ^ nn (S 1 k) % p0) * (h0 ^ nn (S 2 k) % p0) % p0))
theorem pubC_ne (p0 g0 h0 : Nat) (S : Nat → Nat → Int32) {f : Nat} (hf : f ≠ 3) : ∀ k, pubC p0 g0 h0 S k f = S f
  | 0 => rfl
  | k + 1 => by rw [pubC, up_ne _ _ _ hf, pubC_ne p0 g0 h0 S hf k]
def sndS (q0 t0 : Nat) (S : Nat → Nat → Int32) : Nat → Nat → Nat → Int32
  | 0 => S
  | j + 1 => rcv (sndS q0 t0 S j) j (nI (mz_pv (fun k => nn (S 1 k)) (j + 1) 0 t0 % q0)) (nI (mz_pv (fun k => nn (S 2 k)) (j + 1) 0 t0 % q0))
theorem sndS_ne (q0 t0 : Nat) (S : Nat → Nat → Int32) {f : Nat} (h5 : f ≠ 5) (h6 : f ≠ 6) : ∀ k, sndS q0 t0 S k f = S f
  | 0 => rfl
  | k + 1 => by rw [sndS, rcv, up_ne _ _ _ h6, up_ne _ _ _ h5, sndS_ne q0 t0 S h5 h6 k]
noncomputable def raiC (p0 g0 h0 t0 : Nat) (S : Nat → Nat → Int32) : Nat → Nat → Nat → Int32
  | 0 => S
  | j + 1 => up (raiC p0 g0 h0 t0 S j) 8 j (mz_b (S 7 j = 0 ∧ ¬ (g0 ^ (nn (S 5 j)) % p0) * (h0 ^ (nn (S 6 j)) % p0) % p0 = mz_cp (fun k => nn (S 3 k)) (j + 1) 0 t0 % p0))
theorem raiC_ne (p0 g0 h0 t0 : Nat) (S : Nat → Nat → Int32) {f : Nat} (hf : f ≠ 8) : ∀ k, raiC p0 g0 h0 t0 S k f = S f
  | 0 => rfl
  | k + 1 => by rw [raiC, up_ne _ _ _ hf, raiC_ne p0 g0 h0 t0 S hf k]
set_option maxRecDepth 100000 in
set_option maxHeartbeats 4000000 in
/-- publishCommitments() -/
theorem c_C_publishCommitments (l : Launch) (dC : Nat → ClassId) (dI : Nat → Nat → Nat) (Z : Nat → Nat) (cI cP : ClassId) (p0 q0 g0 h0 : Nat) (S : Nat → Nat → Int32) (t0 : Nat) (ht : S 0 2 = nI t0) (ht7 : t0 ≤ 7) (ok : okG p0 q0 g0 h0) (hA : ∀ k, k < t0 → okN (S 1 k) q0) (hB : ∀ k, k < t0 → okN (S 2 k) q0) : Wr l y_C_publishCommitments ws_C_publishCommitments 3 71 [.ref (Z 0)] (dC, dI) cls (tysC cI cP) (wC Z cI cP p0 q0 g0 h0 (S)) (wC Z cI cP p0 q0 g0 h0 (pubC p0 g0 h0 S t0)) (none) := by
  refine Met.ofW (cc := b_C_publishCommitments) (maxL := 2) (ret := none) (by decide) rfl ?_
  intro p e s m args below meth c s₁ B hml hv
  obtain ⟨rfl, hP, hK, hD0⟩ := hv
  have hx := B.exec
  have hb := B.bytes
  have hr := B.returns
  have hts : ∀ w ∈ AL, w.before ([.ref (Z 0)] : List Value).toArray s = true := fun w h => atoms_spec (ws := ws_C_publishCommitments) B.pre w (List.mem_cons_of_mem _ h)
  have hown : s.vm.findClass "DealtSecret" = some m.cls := findClass_of_methodNamed B.named
  have hlk := B.notSynchronized
  have hl := lv_entry ([.ref (Z 0)]) (n := 2) (Nat.le_of_ble_eq_true rfl)
  rw [lg_entry_eq]
  generalize (lg_sl ([.ref (Z 0)]) ++ List.replicate (2 - (lg_sl ([.ref (Z 0)])).length) Slot.unset).toArray = ls at hl ⊢
  have hl : lv_has ls 2 [(0, .ref (Z 0))] := hl
  have hD := w_self hD0
  have hS : va_S (w_A (wC Z cI cP p0 q0 g0 h0 (S))) s.heap s.heap [] := va_S.rf
  obtain ⟨okp2, okp, okq2, okq, okg, okh⟩ := id ok
  have loop : ∀ (n k : Nat) (H : Heap) (locs : List Loc) (ls : Array Slot), t0 + 1 ≤ k + n → k ≤ t0 → va_P (dC, dI) cls (wC Z cI cP p0 q0 g0 h0 (pubC p0 g0 h0 S k)) H → va_D (w_A (wC Z cI cP p0 q0 g0 h0 (S))) (wC Z cI cP p0 q0 g0 h0 (pubC p0 g0 h0 S k)) → va_S (w_A (wC Z cI cP p0 q0 g0 h0 (S))) s.heap H locs → lv_has ls 2 [(0, .ref (Z 0)), (1, .int (nI k))] → W p l e (headSpec ws_C_publishCommitments { frames := 3, cells := 0, slots := 0, locals := 71 }).room s m [.ref (Z 0)].toArray below meth c H locs 0 0 (MQ below (fun _ st o t => o = .returned (none) ∧ va_P (dC, dI) cls (wC Z cI cP p0 q0 g0 h0 (pubC p0 g0 h0 S t0)) t.heap ∧ va_F (w_A (wC Z cI cP p0 q0 g0 h0 (S))) st t) [.ref (Z 0)].toArray s 0 0 (w_A (wC Z cI cP p0 q0 g0 h0 (S)))) (F0 m 2 ls []) := by
    intro n
    induction n with
    | zero =>
      intro k H locs ls h1 h2
      omega
    | succ n ih =>
      intro k H locs ls h1 h2 hP hD hS hl
      refine lv_iload_n hx hb d_C_publishCommitments_2 rfl (lv_at hl 1 rfl) ?_
      refine lv_aload_n hx hb d_C_publishCommitments_3 rfl (lv_at hl 0 rfl) ?_
      refine va_get (D := (dC, dI)) (ci := 2) (v := .int ((pubC p0 g0 h0 S k) 0 2)) (C := "DealtSecret") (T := T_C) (N := 11) hx hb hts i_C hown hK hP 0 rfl rfl 7 (by decide) (hts _ k_108) (fun _ h9 => h9) rfl d_C_publishCommitments_4 ?_
      refine x_i (y := nI t0) (by rw [pubC_ne p0 g0 h0 S (by decide) k]; exact ht) ?_
      refine lv_icmp_ge (tgt := 41) hx hb d_C_publishCommitments_7 (by decide) (fun c7 => ?_) (fun c7 => ?_)
      · have hk : k = t0 := by
          rcases Nat.lt_or_ge k t0 with q | q
          · exact absurd c7 (nI_ge q (by omega))
          · omega
        subst hk
        exact wr_v hx hb hr hlk hP hS d_C_publishCommitments_41
      · have hk : k < t0 := by
          rcases Nat.lt_or_ge k t0 with q | q
          · exact q
          · exact absurd (nI_le q (by omega)) c7
        have hAl := (hA k hk).lt
        have hBl := (hB k hk).lt
        refine lv_aload_n hx hb d_C_publishCommitments_10 rfl (lv_at hl 0 rfl) ?_
        refine va_get (D := (dC, dI)) (ci := 2) (v := .ref (Z 4)) (C := "DealtSecret") (T := T_C) (N := 11) hx hb hts i_C hown hK hP 0 rfl rfl 3 (by decide) (hts _ k_104) (fun _ h9 => h9) rfl d_C_publishCommitments_11 ?_
        refine lv_iload_n hx hb d_C_publishCommitments_14 rfl (lv_at hl 1 rfl) ?_
        refine lv_aload_n hx hb d_C_publishCommitments_15 rfl (lv_at hl 0 rfl) ?_
        refine va_get (D := (dC, dI)) (ci := 2) (v := .ref (Z 1)) (C := "DealtSecret") (T := T_C) (N := 11) hx hb hts i_C hown hK hP 0 rfl rfl 0 (by decide) (hts _ k_101) (fun _ h9 => h9) rfl d_C_publishCommitments_16 ?_
        refine lv_aload_n hx hb d_C_publishCommitments_19 rfl (lv_at hl 0 rfl) ?_
        refine va_get (D := (dC, dI)) (ci := 2) (v := .ref (Z 2)) (C := "DealtSecret") (T := T_C) (N := 11) hx hb hts i_C hown hK hP 0 rfl rfl 1 (by decide) (hts _ k_102) (fun _ h9 => h9) rfl d_C_publishCommitments_20 ?_
        refine lv_iload_n hx hb d_C_publishCommitments_23 rfl (lv_at hl 1 rfl) ?_
        refine va_iald hx hb hK hP 2 0 rfl rfl (vp_in_nI (by omega) (by decide)) d_C_publishCommitments_24 ?_
        refine x_i (y := (pubC p0 g0 h0 S k) 1 k) (by rw [nI_clamp (by omega)]) ?_
        refine x_i (y := nI (nn (S 1 k))) (by rw [pubC_ne p0 g0 h0 S (by decide) k]; exact (hA k hk).eq) ?_
        refine lv_aload_n hx hb d_C_publishCommitments_25 rfl (lv_at hl 0 rfl) ?_
        refine va_get (D := (dC, dI)) (ci := 2) (v := .ref (Z 3)) (C := "DealtSecret") (T := T_C) (N := 11) hx hb hts i_C hown hK hP 0 rfl rfl 2 (by decide) (hts _ k_103) (fun _ h9 => h9) rfl d_C_publishCommitments_26 ?_
        refine lv_iload_n hx hb d_C_publishCommitments_29 rfl (lv_at hl 1 rfl) ?_
        refine va_iald hx hb hK hP 3 0 rfl rfl (vp_in_nI (by omega) (by decide)) d_C_publishCommitments_30 ?_
        refine x_i (y := (pubC p0 g0 h0 S k) 2 k) (by rw [nI_clamp (by omega)]) ?_
        refine x_i (y := nI (nn (S 2 k))) (by rw [pubC_ne p0 g0 h0 S (by decide) k]; exact (hB k hk).eq) ?_
        refine ro_V (As := [.int (nI (nn (S 1 k))), .int (nI (nn (S 2 k)))]) (rest := [.int (nI k), .ref (Z 4)]) (b := (Z 1)) ⟨hx, hb, hml, hown, hts⟩ (c_G_commit l dC dI (Z 1) p0 q0 g0 h0 (nn (S 1 k)) (nn (S 2 k)) (by omega) (by omega) okg okh okp2 okp) (cwV 2 hts (al_V k_169 k_170 k_171 k_2 k_172) rfl rfl rfl (by decide +kernel) ⟨Nat.le_of_ble_eq_true rfl, Nat.le_of_ble_eq_true rfl⟩) (fun U g mk a h => ⟨h.1, va_K.moved (u := U) (U := U.calling g mk a) (Vm.Alike.refl U.vm) h.2⟩) (va_recv hK hP (ci := 0) (q0 := 1) rfl rfl) (fun U hU hW => ⟨by rw [hU]; exact (hP.sub [1] rfl), va_K.moved hW.alike (hK.sub [] rfl)⟩) rfl hl.1 rfl (lv_room (Nat.le_of_ble_eq_true rfl)) d_C_publishCommitments_31 ⟨Nat.zero_le _, Nat.zero_le _⟩ ?_
        refine va_iast hx hb hK hP hD hS 4 0 rfl rfl (vp_in_nI (by omega) (by decide)) d_C_publishCommitments_34 (fun H locs hP hD hS => ?_)
        rw [nI_clamp (by omega)] at hP hD
        have hP : va_P (dC, dI) cls (wC Z cI cP p0 q0 g0 h0 (up (pubC p0 g0 h0 S k) 3 k (nI ((g0 ^ nn (S 1 k) % p0) * (h0 ^ nn (S 2 k) % p0) % p0)))) H := hP
        have hD : va_D (w_A (wC Z cI cP p0 q0 g0 h0 (S))) (wC Z cI cP p0 q0 g0 h0 (up (pubC p0 g0 h0 S k) 3 k (nI ((g0 ^ nn (S 1 k) % p0) * (h0 ^ nn (S 2 k) % p0) % p0)))) := hD
        refine lv_iinc (v := (nI (k + 1))) (lv' := [(1, .int (nI (k + 1))), (0, .ref (Z 0))]) hx hb d_C_publishCommitments_35 hl (k := 1) rfl (nI_1 k) (by decide) rfl (fun ls hl => ?_)
        refine lv_goto (tgt := 2) hx hb d_C_publishCommitments_38 (by decide) ?_
        exact ih (k + 1) H locs ls (by omega) (by omega) hP hD hS (lv_sub hl [1, 0] rfl)
  refine lv_iconst (v := (nI 0)) hx hb d_C_publishCommitments_0 (by decide) ?_
  refine lv_istore_n (lv' := [(1, .int (nI 0)), (0, .ref (Z 0))]) hx hb d_C_publishCommitments_1 rfl hl (by decide) rfl (fun ls hl => ?_)
  exact loop (t0 + 1) 0 _ _ ls (by omega) (by omega) hP hD hS (lv_sub hl [1, 0] rfl)
set_option maxRecDepth 100000 in
set_option maxHeartbeats 4000000 in
/-- sendShares() -/
theorem c_C_sendShares (l : Launch) (dC : Nat → ClassId) (dI : Nat → Nat → Nat) (Z : Nat → Nat) (cI cP : ClassId) (p0 q0 g0 h0 : Nat) (S : Nat → Nat → Int32) (n0 t0 : Nat) (hn : S 0 1 = nI n0) (hn7 : n0 ≤ 7) (ht : S 0 2 = nI t0) (ht7 : t0 ≤ 7) (ok : okG p0 q0 g0 h0) (hA : ∀ k, k < t0 → okN (S 1 k) q0) (hB : ∀ k, k < t0 → okN (S 2 k) q0) : Wr l y_C_sendShares ws_C_sendShares 2 46 [.ref (Z 0)] (dC, dI) cls (tysC cI cP) (wC Z cI cP p0 q0 g0 h0 (S)) (wC Z cI cP p0 q0 g0 h0 (sndS q0 t0 S n0)) (none) := by
  refine Met.ofW (cc := b_C_sendShares) (maxL := 2) (ret := none) (by decide) rfl ?_
  intro p e s m args below meth c s₁ B hml hv
  obtain ⟨rfl, hP, hK, hD0⟩ := hv
  have hx := B.exec
  have hb := B.bytes
  have hr := B.returns
  have hts : ∀ w ∈ AL, w.before ([.ref (Z 0)] : List Value).toArray s = true := fun w h => atoms_spec (ws := ws_C_sendShares) B.pre w (List.mem_cons_of_mem _ h)
  have hown : s.vm.findClass "DealtSecret" = some m.cls := findClass_of_methodNamed B.named
  have hlk := B.notSynchronized
  have hl := lv_entry ([.ref (Z 0)]) (n := 2) (Nat.le_of_ble_eq_true rfl)
  rw [lg_entry_eq]
  generalize (lg_sl ([.ref (Z 0)]) ++ List.replicate (2 - (lg_sl ([.ref (Z 0)])).length) Slot.unset).toArray = ls at hl ⊢
  have hl : lv_has ls 2 [(0, .ref (Z 0))] := hl
  have hD := w_self hD0
  have hS : va_S (w_A (wC Z cI cP p0 q0 g0 h0 (S))) s.heap s.heap [] := va_S.rf
  obtain ⟨okp2, okp, okq2, okq, okg, okh⟩ := id ok
  have loop : ∀ (n j : Nat) (H : Heap) (locs : List Loc) (ls : Array Slot), n0 + 1 ≤ j + n → j ≤ n0 → va_P (dC, dI) cls (wC Z cI cP p0 q0 g0 h0 (sndS q0 t0 S j)) H → va_D (w_A (wC Z cI cP p0 q0 g0 h0 (S))) (wC Z cI cP p0 q0 g0 h0 (sndS q0 t0 S j)) → va_S (w_A (wC Z cI cP p0 q0 g0 h0 (S))) s.heap H locs → lv_has ls 2 [(0, .ref (Z 0)), (1, .int (nI (j + 1)))] → W p l e (headSpec ws_C_sendShares { frames := 2, cells := 0, slots := 0, locals := 46 }).room s m [.ref (Z 0)].toArray below meth c H locs 0 0 (MQ below (fun _ st o t => o = .returned (none) ∧ va_P (dC, dI) cls (wC Z cI cP p0 q0 g0 h0 (sndS q0 t0 S n0)) t.heap ∧ va_F (w_A (wC Z cI cP p0 q0 g0 h0 (S))) st t) [.ref (Z 0)].toArray s 0 0 (w_A (wC Z cI cP p0 q0 g0 h0 (S)))) (F0 m 2 ls []) := by
    intro n
    induction n with
    | zero =>
      intro j H locs ls h1 h2
      omega
    | succ n ih =>
      intro j H locs ls h1 h2 hP hD hS hl
      refine lv_iload_n hx hb d_C_sendShares_2 rfl (lv_at hl 1 rfl) ?_
      refine lv_aload_n hx hb d_C_sendShares_3 rfl (lv_at hl 0 rfl) ?_
      refine va_get (D := (dC, dI)) (ci := 2) (v := .int ((sndS q0 t0 S j) 0 1)) (C := "DealtSecret") (T := T_C) (N := 11) hx hb hts i_C hown hK hP 0 rfl rfl 6 (by decide) (hts _ k_107) (fun _ h9 => h9) rfl d_C_sendShares_4 ?_
      refine x_i (y := nI n0) (by rw [sndS_ne q0 t0 S (by decide) (by decide) j]; exact hn) ?_
      refine lv_icmp_gt (tgt := 45) hx hb d_C_sendShares_7 (by decide) (fun c7 => ?_) (fun c7 => ?_)
      · have hk : j = n0 := by
          have h5 : n0 < j + 1 := (nI_ltI (by omega) (by omega)).mp c7
          omega
        subst hk
        exact wr_v hx hb hr hlk hP hS d_C_sendShares_45
      · have hk : j < n0 := by
          rcases Nat.lt_or_ge j n0 with q | q
          · exact q
          · exact absurd (nI_lt (show n0 < j + 1 by omega) (by omega)) c7
        refine lv_aload_n hx hb d_C_sendShares_10 rfl (lv_at hl 0 rfl) ?_
        refine va_get (D := (dC, dI)) (ci := 2) (v := .ref (Z 5)) (C := "DealtSecret") (T := T_C) (N := 11) hx hb hts i_C hown hK hP 0 rfl rfl 4 (by decide) (hts _ k_105) (fun _ h9 => h9) rfl d_C_sendShares_11 ?_
        refine lv_iload_n hx hb d_C_sendShares_14 rfl (lv_at hl 1 rfl) ?_
        refine lv_iconst (v := 1) hx hb d_C_sendShares_15 (by decide) ?_
        refine lv_isub hx hb d_C_sendShares_16 ?_
        refine x_i (y := nI j) (nI_pred j) ?_
        refine va_aldq hx hb hK hP 5 1 rfl rfl (vp_in_nI (by omega) (by decide)) d_C_sendShares_17 ?_
        refine x_v (y := .ref (Z (6 + j))) (by rw [nI_clamp (by omega)]; rfl) ?_
        refine lv_aload_n hx hb d_C_sendShares_18 rfl (lv_at hl 0 rfl) ?_
        refine lv_iload_n hx hb d_C_sendShares_19 rfl (lv_at hl 1 rfl) ?_
        refine lv_aload_n hx hb d_C_sendShares_20 rfl (lv_at hl 0 rfl) ?_
        refine va_get (D := (dC, dI)) (ci := 2) (v := .ref (Z 2)) (C := "DealtSecret") (T := T_C) (N := 11) hx hb hts i_C hown hK hP 0 rfl rfl 1 (by decide) (hts _ k_102) (fun _ h9 => h9) rfl d_C_sendShares_21 ?_
        refine ro_V (As := [.int (nI (j + 1)), .ref (Z 2)]) (rest := [.ref (Z (6 + j))]) (b := (Z 0)) ⟨hx, hb, hml, hown, hts⟩ (c_C_valueAt_a l dC dI Z cI cP p0 q0 g0 h0 (sndS q0 t0 S j) (j + 1) t0 (by omega) (by rw [sndS_ne q0 t0 S (by decide) (by decide) j]; exact ht) ht7 ok (by rw [sndS_ne q0 t0 S (by decide) (by decide) j]; exact hA)) (cwV 2 hts (al_V k_310 k_311 k_642 k_1 k_312) rfl rfl rfl (by decide +kernel) ⟨Nat.le_of_ble_eq_true rfl, Nat.le_of_ble_eq_true rfl⟩) (fun U g mk a h => ⟨h.1, va_K.moved (u := U) (U := U.calling g mk a) (Vm.Alike.refl U.vm) h.2⟩) (va_recv hK hP (ci := 2) (q0 := 0) rfl rfl) (fun U hU hW => ⟨by rw [hU]; exact hP, va_K.moved hW.alike hK⟩) rfl hl.1 rfl (lv_room (Nat.le_of_ble_eq_true rfl)) d_C_sendShares_24 ⟨Nat.zero_le _, Nat.zero_le _⟩ ?_
        refine x_i (y := nI (mz_pv (fun k => nn (S 1 k)) (j + 1) 0 t0 % q0)) (by rw [sndS_ne q0 t0 S (by decide) (by decide) j]) ?_
        refine lv_aload_n hx hb d_C_sendShares_27 rfl (lv_at hl 0 rfl) ?_
        refine lv_iload_n hx hb d_C_sendShares_28 rfl (lv_at hl 1 rfl) ?_
        refine lv_aload_n hx hb d_C_sendShares_29 rfl (lv_at hl 0 rfl) ?_
        refine va_get (D := (dC, dI)) (ci := 2) (v := .ref (Z 3)) (C := "DealtSecret") (T := T_C) (N := 11) hx hb hts i_C hown hK hP 0 rfl rfl 2 (by decide) (hts _ k_103) (fun _ h9 => h9) rfl d_C_sendShares_30 ?_
        refine ro_V (As := [.int (nI (j + 1)), .ref (Z 3)]) (rest := [.int (nI (mz_pv (fun k => nn (S 1 k)) (j + 1) 0 t0 % q0)), .ref (Z (6 + j))]) (b := (Z 0)) ⟨hx, hb, hml, hown, hts⟩ (c_C_valueAt_b l dC dI Z cI cP p0 q0 g0 h0 (sndS q0 t0 S j) (j + 1) t0 (by omega) (by rw [sndS_ne q0 t0 S (by decide) (by decide) j]; exact ht) ht7 ok (by rw [sndS_ne q0 t0 S (by decide) (by decide) j]; exact hB)) (cwV 2 hts (al_V k_310 k_311 k_642 k_1 k_312) rfl rfl rfl (by decide +kernel) ⟨Nat.le_of_ble_eq_true rfl, Nat.le_of_ble_eq_true rfl⟩) (fun U g mk a h => ⟨h.1, va_K.moved (u := U) (U := U.calling g mk a) (Vm.Alike.refl U.vm) h.2⟩) (va_recv hK hP (ci := 2) (q0 := 0) rfl rfl) (fun U hU hW => ⟨by rw [hU]; exact hP, va_K.moved hW.alike hK⟩) rfl hl.1 rfl (lv_room (Nat.le_of_ble_eq_true rfl)) d_C_sendShares_33 ⟨Nat.zero_le _, Nat.zero_le _⟩ ?_
        refine x_i (y := nI (mz_pv (fun k => nn (S 2 k)) (j + 1) 0 t0 % q0)) (by rw [sndS_ne q0 t0 S (by decide) (by decide) j]) ?_
        refine wr_V (As := [.int (nI (mz_pv (fun k => nn (S 1 k)) (j + 1) 0 t0 % q0)), .int (nI (mz_pv (fun k => nn (S 2 k)) (j + 1) 0 t0 % q0))]) (rest := []) (b := (Z (6 + j))) ⟨hx, hb, hml, hown, hts⟩ (c_P_receive l dC dI Z cI cP p0 q0 g0 h0 (sndS q0 t0 S j) j (by omega) (nI (mz_pv (fun k => nn (S 1 k)) (j + 1) 0 t0 % q0)) (nI (mz_pv (fun k => nn (S 2 k)) (j + 1) 0 t0 % q0))) (cwV 2 hts (al_V k_321 k_322 k_323 k_3 k_324) rfl rfl rfl (by decide +kernel) ⟨Nat.le_of_ble_eq_true rfl, Nat.le_of_ble_eq_true rfl⟩) (va_recv hK hP (ci := 1) (q0 := (6 + j)) rfl (w_part (by omega))) hP hK hD hS rfl hl.1 rfl (lv_room (Nat.le_of_ble_eq_true rfl)) d_C_sendShares_36 ⟨Nat.zero_le _, Nat.zero_le _⟩ (fun H locs hP _ _ hS => ?_)
        have hD := w_addr hD (w_adC (sndS q0 t0 S j) (sndS q0 t0 S (j + 1)))
        refine lv_iinc (v := (nI (j + 1 + 1))) (lv' := [(1, .int (nI (j + 1 + 1))), (0, .ref (Z 0))]) hx hb d_C_sendShares_39 hl (k := 1) rfl (nI_1 (j + 1)) (by decide) rfl (fun ls hl => ?_)
        refine lv_goto (tgt := 2) hx hb d_C_sendShares_42 (by decide) ?_
        exact ih (j + 1) H locs ls (by omega) (by omega) hP hD hS (lv_sub hl [1, 0] rfl)
  refine lv_iconst (v := (nI (0 + 1))) hx hb d_C_sendShares_0 (by decide) ?_
  refine lv_istore_n (lv' := [(1, .int (nI (0 + 1))), (0, .ref (Z 0))]) hx hb d_C_sendShares_1 rfl hl (by decide) rfl (fun ls hl => ?_)
  exact loop (n0 + 1) 0 _ _ ls (by omega) (by omega) hP hD hS (lv_sub hl [1, 0] rfl)
set_option maxRecDepth 100000 in
set_option maxHeartbeats 4000000 in
/-- raiseComplaints() -/
theorem c_C_raiseComplaints (l : Launch) (dC : Nat → ClassId) (dI : Nat → Nat → Nat) (Z : Nat → Nat) (cI cP : ClassId) (p0 q0 g0 h0 : Nat) (S : Nat → Nat → Int32) (n0 t0 : Nat) (hn : S 0 1 = nI n0) (hn7 : n0 ≤ 7) (hN : ∀ j, j < 7 → S 4 j = nI (j + 1)) (hU : ∀ j, j < n0 → okN (S 5 j) q0) (hV : ∀ j, j < n0 → okN (S 6 j) q0) (ht : S 0 2 = nI t0) (ht7 : t0 ≤ 7) (ok : okG p0 q0 g0 h0) (hC : ∀ k, k < t0 → okN (S 3 k) p0) : Wr l y_C_raiseComplaints ws_C_raiseComplaints 5 116 [.ref (Z 0)] (dC, dI) cls (tysC cI cP) (wC Z cI cP p0 q0 g0 h0 (S)) (wC Z cI cP p0 q0 g0 h0 (raiC p0 g0 h0 t0 S n0)) (none) := by
  refine Met.ofW (cc := b_C_raiseComplaints) (maxL := 3) (ret := none) (by decide) rfl ?_
  intro p e s m args below meth c s₁ B hml hv
  obtain ⟨rfl, hP, hK, hD0⟩ := hv
  have hx := B.exec
  have hb := B.bytes
  have hr := B.returns
  have hts : ∀ w ∈ AL, w.before ([.ref (Z 0)] : List Value).toArray s = true := fun w h => atoms_spec (ws := ws_C_raiseComplaints) B.pre w (List.mem_cons_of_mem _ h)
  have hown : s.vm.findClass "DealtSecret" = some m.cls := findClass_of_methodNamed B.named
  have hlk := B.notSynchronized
  have hl := lv_entry ([.ref (Z 0)]) (n := 3) (Nat.le_of_ble_eq_true rfl)
  rw [lg_entry_eq]
  generalize (lg_sl ([.ref (Z 0)]) ++ List.replicate (3 - (lg_sl ([.ref (Z 0)])).length) Slot.unset).toArray = ls at hl ⊢
  have hl : lv_has ls 3 [(0, .ref (Z 0))] := hl
  have hD := w_self hD0
  have hS : va_S (w_A (wC Z cI cP p0 q0 g0 h0 (S))) s.heap s.heap [] := va_S.rf
  obtain ⟨okp2, okp, okq2, okq, okg, okh⟩ := id ok
  have loop : ∀ (n j : Nat) (H : Heap) (locs : List Loc) (ls : Array Slot), n0 + 1 ≤ j + n → j ≤ n0 → va_P (dC, dI) cls (wC Z cI cP p0 q0 g0 h0 (raiC p0 g0 h0 t0 S j)) H → va_D (w_A (wC Z cI cP p0 q0 g0 h0 (S))) (wC Z cI cP p0 q0 g0 h0 (raiC p0 g0 h0 t0 S j)) → va_S (w_A (wC Z cI cP p0 q0 g0 h0 (S))) s.heap H locs → lv_has ls 3 [(0, .ref (Z 0)), (1, .int (nI j))] → W p l e (headSpec ws_C_raiseComplaints { frames := 5, cells := 0, slots := 0, locals := 116 }).room s m [.ref (Z 0)].toArray below meth c H locs 0 0 (MQ below (fun _ st o t => o = .returned (none) ∧ va_P (dC, dI) cls (wC Z cI cP p0 q0 g0 h0 (raiC p0 g0 h0 t0 S n0)) t.heap ∧ va_F (w_A (wC Z cI cP p0 q0 g0 h0 (S))) st t) [.ref (Z 0)].toArray s 0 0 (w_A (wC Z cI cP p0 q0 g0 h0 (S)))) (F0 m 2 ls []) := by
    intro n
    induction n with
    | zero =>
      intro j H locs ls h1 h2
      omega
    | succ n ih =>
      intro j H locs ls h1 h2 hP hD hS hl
      refine lv_iload_n hx hb d_C_raiseComplaints_2 rfl (lv_at hl 1 rfl) ?_
      refine lv_aload_n hx hb d_C_raiseComplaints_3 rfl (lv_at hl 0 rfl) ?_
      refine va_get (D := (dC, dI)) (ci := 2) (v := .int ((raiC p0 g0 h0 t0 S j) 0 1)) (C := "DealtSecret") (T := T_C) (N := 11) hx hb hts i_C hown hK hP 0 rfl rfl 6 (by decide) (hts _ k_107) (fun _ h9 => h9) rfl d_C_raiseComplaints_4 ?_
      refine x_i (y := nI n0) (by rw [raiC_ne p0 g0 h0 t0 S (by decide) j]; exact hn) ?_
      refine lv_icmp_ge (tgt := 47) hx hb d_C_raiseComplaints_7 (by decide) (fun c7 => ?_) (fun c7 => ?_)
      · have hk : j = n0 := by
          rcases Nat.lt_or_ge j n0 with q | q
          · exact absurd c7 (nI_ge q (by omega))
          · omega
        subst hk
        exact wr_v hx hb hr hlk hP hS d_C_raiseComplaints_47
      · have hk : j < n0 := by
          rcases Nat.lt_or_ge j n0 with q | q
          · exact q
          · exact absurd (nI_le q (by omega)) c7
        refine lv_aload_n hx hb d_C_raiseComplaints_10 rfl (lv_at hl 0 rfl) ?_
        refine va_get (D := (dC, dI)) (ci := 2) (v := .ref (Z 5)) (C := "DealtSecret") (T := T_C) (N := 11) hx hb hts i_C hown hK hP 0 rfl rfl 4 (by decide) (hts _ k_105) (fun _ h9 => h9) rfl d_C_raiseComplaints_11 ?_
        refine lv_iload_n hx hb d_C_raiseComplaints_14 rfl (lv_at hl 1 rfl) ?_
        refine va_aldq hx hb hK hP 5 1 rfl rfl (vp_in_nI (by omega) (by decide)) d_C_raiseComplaints_15 ?_
        refine x_v (y := .ref (Z (6 + j))) (by rw [nI_clamp (by omega)]; rfl) ?_
        refine lv_astore_n (lv' := [(2, .ref (Z (6 + j))), (0, .ref (Z 0)), (1, .int (nI j))]) hx hb d_C_raiseComplaints_16 rfl hl (by decide) rfl (fun ls hl => ?_)
        refine lv_aload_n hx hb d_C_raiseComplaints_17 rfl (lv_at hl 0 rfl) ?_
        refine lv_aload_n hx hb d_C_raiseComplaints_18 rfl (lv_at hl 0 rfl) ?_
        refine va_get (D := (dC, dI)) (ci := 1) (v := .int ((raiC p0 g0 h0 t0 S j) 7 j)) (C := "DealtSecret$Participant") (T := T_P) (N := 9) hx hb hts i_P hown hK hP (6 + j) (w_part (by omega)) rfl 3 (by decide) (hts _ k_71) (fun _ h9 => h9) rfl d_C_raiseComplaints_19 ?_
        refine x_i (y := S 7 j) (by rw [raiC_ne p0 g0 h0 t0 S (by decide) j]) ?_
        refine lv_if_ne (tgt := 37) hx hb d_C_raiseComplaints_22 (by decide) (fun c22 => ?_) (fun c22 => ?_)
        · refine lv_iconst (v := 0) hx hb d_C_raiseComplaints_37 (by decide) ?_
          refine x_i (y := mz_b (S 7 j = 0 ∧ ¬ (g0 ^ (nn (S 5 j)) % p0) * (h0 ^ (nn (S 6 j)) % p0) % p0 = mz_cp (fun k => nn (S 3 k)) (j + 1) 0 t0 % p0)) ((mz_bf (fun q => by first | exact c22 q.1 | exact c30 (mz_bf q.2))).symm) ?_
          refine va_put (D := (dC, dI)) (ci := 1) (v := .int (mz_b (S 7 j = 0 ∧ ¬ (g0 ^ (nn (S 5 j)) % p0) * (h0 ^ (nn (S 6 j)) % p0) % p0 = mz_cp (fun k => nn (S 3 k)) (j + 1) 0 t0 % p0))) (ty := .boolean) (C := "DealtSecret$Participant") (T := T_P) (N := 9) hx hb hts i_P t_P t_P_ok n_P hown hK hP hD hS (6 + j) (w_part (by omega)) rfl 4 (by decide) (hts _ k_73) (fun _ h9 => h9) rfl (by decide +kernel) (mz_bn _) (mz_bfit _) (Nat.le_of_ble_eq_true rfl) d_C_raiseComplaints_38 (fun H locs hP hD hS => ?_)
          have hP : va_P (dC, dI) cls (wC Z cI cP p0 q0 g0 h0 (up (raiC p0 g0 h0 t0 S j) 8 j (mz_b (S 7 j = 0 ∧ ¬ (g0 ^ (nn (S 5 j)) % p0) * (h0 ^ (nn (S 6 j)) % p0) % p0 = mz_cp (fun k => nn (S 3 k)) (j + 1) 0 t0 % p0)))) H := by rw [← w_pt4 (by omega)]; exact hP
          have hD : va_D (w_A (wC Z cI cP p0 q0 g0 h0 (S))) (wC Z cI cP p0 q0 g0 h0 (up (raiC p0 g0 h0 t0 S j) 8 j (mz_b (S 7 j = 0 ∧ ¬ (g0 ^ (nn (S 5 j)) % p0) * (h0 ^ (nn (S 6 j)) % p0) % p0 = mz_cp (fun k => nn (S 3 k)) (j + 1) 0 t0 % p0)))) := by rw [← w_pt4 (by omega)]; exact hD
          refine lv_iinc (v := (nI (j + 1))) (lv' := [(1, .int (nI (j + 1))), (2, .ref (Z (6 + j))), (0, .ref (Z 0))]) hx hb d_C_raiseComplaints_41 hl (k := 2) rfl (nI_1 j) (by decide) rfl (fun ls hl => ?_)
          refine lv_goto (tgt := 2) hx hb d_C_raiseComplaints_44 (by decide) ?_
          exact ih (j + 1) H locs ls (by omega) (by omega) hP hD hS (lv_sub hl [2, 0] rfl)
        · refine lv_aload_n hx hb d_C_raiseComplaints_25 rfl (lv_at hl 1 rfl) ?_
          refine lv_aload_n hx hb d_C_raiseComplaints_26 rfl (lv_at hl 0 rfl) ?_
          refine ro_V (As := [.ref (Z (6 + j))]) (rest := [.ref (Z (6 + j))]) (b := (Z 0)) ⟨hx, hb, hml, hown, hts⟩ (c_C_isShareRight l dC dI Z cI cP p0 q0 g0 h0 (raiC p0 g0 h0 t0 S j) j t0 (by omega) (by rw [raiC_ne p0 g0 h0 t0 S (by decide) j]; exact hN j (by omega)) (by rw [raiC_ne p0 g0 h0 t0 S (by decide) j]; exact hU j hk) (by rw [raiC_ne p0 g0 h0 t0 S (by decide) j]; exact hV j hk) (by rw [raiC_ne p0 g0 h0 t0 S (by decide) j]; exact ht) ht7 ok (by rw [raiC_ne p0 g0 h0 t0 S (by decide) j]; exact hC)) (cwV 1 hts (al_V k_163 k_164 k_633 k_1 k_165) rfl rfl rfl (by decide +kernel) ⟨Nat.le_of_ble_eq_true rfl, Nat.le_of_ble_eq_true rfl⟩) (fun U g mk a h => ⟨h.1, va_K.moved (u := U) (U := U.calling g mk a) (Vm.Alike.refl U.vm) h.2⟩) (va_recv hK hP (ci := 2) (q0 := 0) rfl rfl) (fun U hU hW => ⟨by rw [hU]; exact hP, va_K.moved hW.alike hK⟩) rfl hl.1 rfl (lv_room (Nat.le_of_ble_eq_true rfl)) d_C_raiseComplaints_27 ⟨Nat.zero_le _, Nat.zero_le _⟩ ?_
          refine x_i (y := mz_b ((g0 ^ (nn (S 5 j)) % p0) * (h0 ^ (nn (S 6 j)) % p0) % p0 = mz_cp (fun k => nn (S 3 k)) (j + 1) 0 t0 % p0)) (by rw [raiC_ne p0 g0 h0 t0 S (by decide) j, raiC_ne p0 g0 h0 t0 S (by decide) j, raiC_ne p0 g0 h0 t0 S (by decide) j]) ?_
          refine lv_if_ne (tgt := 37) hx hb d_C_raiseComplaints_30 (by decide) (fun c30 => ?_) (fun c30 => ?_)
          · refine lv_iconst (v := 0) hx hb d_C_raiseComplaints_37 (by decide) ?_
            refine x_i (y := mz_b (S 7 j = 0 ∧ ¬ (g0 ^ (nn (S 5 j)) % p0) * (h0 ^ (nn (S 6 j)) % p0) % p0 = mz_cp (fun k => nn (S 3 k)) (j + 1) 0 t0 % p0)) ((mz_bf (fun q => by first | exact c22 q.1 | exact c30 (mz_bf q.2))).symm) ?_
            refine va_put (D := (dC, dI)) (ci := 1) (v := .int (mz_b (S 7 j = 0 ∧ ¬ (g0 ^ (nn (S 5 j)) % p0) * (h0 ^ (nn (S 6 j)) % p0) % p0 = mz_cp (fun k => nn (S 3 k)) (j + 1) 0 t0 % p0))) (ty := .boolean) (C := "DealtSecret$Participant") (T := T_P) (N := 9) hx hb hts i_P t_P t_P_ok n_P hown hK hP hD hS (6 + j) (w_part (by omega)) rfl 4 (by decide) (hts _ k_73) (fun _ h9 => h9) rfl (by decide +kernel) (mz_bn _) (mz_bfit _) (Nat.le_of_ble_eq_true rfl) d_C_raiseComplaints_38 (fun H locs hP hD hS => ?_)
            have hP : va_P (dC, dI) cls (wC Z cI cP p0 q0 g0 h0 (up (raiC p0 g0 h0 t0 S j) 8 j (mz_b (S 7 j = 0 ∧ ¬ (g0 ^ (nn (S 5 j)) % p0) * (h0 ^ (nn (S 6 j)) % p0) % p0 = mz_cp (fun k => nn (S 3 k)) (j + 1) 0 t0 % p0)))) H := by rw [← w_pt4 (by omega)]; exact hP
            have hD : va_D (w_A (wC Z cI cP p0 q0 g0 h0 (S))) (wC Z cI cP p0 q0 g0 h0 (up (raiC p0 g0 h0 t0 S j) 8 j (mz_b (S 7 j = 0 ∧ ¬ (g0 ^ (nn (S 5 j)) % p0) * (h0 ^ (nn (S 6 j)) % p0) % p0 = mz_cp (fun k => nn (S 3 k)) (j + 1) 0 t0 % p0)))) := by rw [← w_pt4 (by omega)]; exact hD
            refine lv_iinc (v := (nI (j + 1))) (lv' := [(1, .int (nI (j + 1))), (2, .ref (Z (6 + j))), (0, .ref (Z 0))]) hx hb d_C_raiseComplaints_41 hl (k := 2) rfl (nI_1 j) (by decide) rfl (fun ls hl => ?_)
            refine lv_goto (tgt := 2) hx hb d_C_raiseComplaints_44 (by decide) ?_
            exact ih (j + 1) H locs ls (by omega) (by omega) hP hD hS (lv_sub hl [2, 0] rfl)
          · refine lv_iconst (v := 1) hx hb d_C_raiseComplaints_33 (by decide) ?_
            refine x_i (y := mz_b (S 7 j = 0 ∧ ¬ (g0 ^ (nn (S 5 j)) % p0) * (h0 ^ (nn (S 6 j)) % p0) % p0 = mz_cp (fun k => nn (S 3 k)) (j + 1) 0 t0 % p0)) ((mz_bt ⟨c22, mz_b0.mp c30⟩).symm) ?_
            refine lv_goto (tgt := 38) hx hb d_C_raiseComplaints_34 (by decide) ?_
            refine va_put (D := (dC, dI)) (ci := 1) (v := .int (mz_b (S 7 j = 0 ∧ ¬ (g0 ^ (nn (S 5 j)) % p0) * (h0 ^ (nn (S 6 j)) % p0) % p0 = mz_cp (fun k => nn (S 3 k)) (j + 1) 0 t0 % p0))) (ty := .boolean) (C := "DealtSecret$Participant") (T := T_P) (N := 9) hx hb hts i_P t_P t_P_ok n_P hown hK hP hD hS (6 + j) (w_part (by omega)) rfl 4 (by decide) (hts _ k_73) (fun _ h9 => h9) rfl (by decide +kernel) (mz_bn _) (mz_bfit _) (Nat.le_of_ble_eq_true rfl) d_C_raiseComplaints_38 (fun H locs hP hD hS => ?_)
            have hP : va_P (dC, dI) cls (wC Z cI cP p0 q0 g0 h0 (up (raiC p0 g0 h0 t0 S j) 8 j (mz_b (S 7 j = 0 ∧ ¬ (g0 ^ (nn (S 5 j)) % p0) * (h0 ^ (nn (S 6 j)) % p0) % p0 = mz_cp (fun k => nn (S 3 k)) (j + 1) 0 t0 % p0)))) H := by rw [← w_pt4 (by omega)]; exact hP
            have hD : va_D (w_A (wC Z cI cP p0 q0 g0 h0 (S))) (wC Z cI cP p0 q0 g0 h0 (up (raiC p0 g0 h0 t0 S j) 8 j (mz_b (S 7 j = 0 ∧ ¬ (g0 ^ (nn (S 5 j)) % p0) * (h0 ^ (nn (S 6 j)) % p0) % p0 = mz_cp (fun k => nn (S 3 k)) (j + 1) 0 t0 % p0)))) := by rw [← w_pt4 (by omega)]; exact hD
            refine lv_iinc (v := (nI (j + 1))) (lv' := [(1, .int (nI (j + 1))), (2, .ref (Z (6 + j))), (0, .ref (Z 0))]) hx hb d_C_raiseComplaints_41 hl (k := 2) rfl (nI_1 j) (by decide) rfl (fun ls hl => ?_)
            refine lv_goto (tgt := 2) hx hb d_C_raiseComplaints_44 (by decide) ?_
            exact ih (j + 1) H locs ls (by omega) (by omega) hP hD hS (lv_sub hl [2, 0] rfl)
  refine lv_iconst (v := (nI 0)) hx hb d_C_raiseComplaints_0 (by decide) ?_
  refine lv_istore_n (lv' := [(1, .int (nI 0)), (0, .ref (Z 0))]) hx hb d_C_raiseComplaints_1 rfl hl (by decide) rfl (fun ls hl => ?_)
  exact loop (n0 + 1) 0 _ _ ls (by omega) (by omega) hP hD hS (lv_sub hl [1, 0] rfl)
end
section
/-! methods that only read and answer nothing; static methods that write -/
def QcVoid : Array Value → State → Outcome → State → Prop := fun _ st o t => o = .returned none ∧ t.heap = st.heap
abbrev Rv (l : Launch) (y : MethodName) (ws : List Cond) (fr lo : Nat) (av : List Value) (B : State → Prop) : Prop :=
  Met l y ws { frames := fr, cells := 0, slots := 0, locals := lo } (va_Pc av B) QcVoid 0 0 (fun _ => False)
section RV
variable {p : Program} {l : Launch} {e : Env} {R : Room} {s : State} {m : MethodId} {args : Array Value} {below : List Frame} {meth : Method} {c : Code} {H H0 : Heap} {locs : List Loc} {cells slots : Nat} {Q : State → Prop}
variable {cc : ByteArray} {pc : Nat} {ls : Array Slot} {rest : List Value} {D : va_G} {cl : List vw_C} {tys : List (ClassId × FieldType)} {w0 w1 : va_W} {A : Nat → Prop}
theorem rv_v (hx : p.tables.exec = Jvm.exec) (hb : c.code = cc) (hr : meth.sig.returnType = none) (hk : meth.locks = false) (hdg : decode cc pc = .ok (.return_, 1)) :
    W p l e R s m args below meth c s.heap [] cells slots (MQ below QcVoid args s cells slots (fun _ => False)) (F0 m pc ls []) :=
  W.vret hx hb hr (fun t ht _ => ⟨rfl, ht⟩) (fun q hq => by cases hq) hdg hk
section RVC
variable {Ts ws : List Cond} {own C : String} {nL n index maxL fr lo : Nat} {y : MethodName} {bytes : ByteArray} {ret : Option FieldType} {B : State → Prop} {As st : List Value} {b : Addr} {v : Option Value}
theorem rv_V (S : CallFix p m c cc nL s args Ts own) (hM : Rv l y ws fr lo (.ref b :: As) B) (cw : CallW R s args own C index y bytes maxL ret ws { frames := fr, cells := 0, slots := 0, locals := lo } 0 0 n)
    (hbl : ∀ (U : State) (g : JFrame) (mk : MethodId) (a : Array Value), B U → B (U.calling g mk a)) (hrec : ∃ cellB : Cell, H[b]? = some cellB ∧ cellB.vm.isStatics = false ∧ s.vm.findClass C = some cellB.cls) (hB : ∀ U : State, U.heap = H → s.WarmedH U.vm → B U)
    (hn : As.length = n) (hsz : ls.size = nL) (hst : st = As.reverse ++ .ref b :: rest) (hW : 2 * (F0 m pc ls st).monitorRoom + (rest.map fun v => v.category).sum ≤ 8) (hdg : decode cc pc = .ok (.invokevirtual index, 3)) (hf : cells ≤ R.cells ∧ slots ≤ R.slots)
    (kk : W p l e R s m args below meth c H locs cells slots Q (F0 m (pc + 3) ls rest)) : W p l e R s m args below meth c H locs cells slots Q (F0 m pc ls st) := by
  have hr : CallRun p l e R s m args below meth c H locs cells slots 0 0 (F0 m pc ls st) rest (QcVoid (Value.ref b :: As).toArray) (fun _ => False) := W.runV (As := As) (rest := rest) (b := b) S hM cw ⟨fun a U g mk q => ⟨q.1, hbl U g mk a q.2⟩, hrec, fun U hU hW => ⟨rfl, hB U hU hW⟩⟩ rfl hn hsz hst hW hdg hf
  intro T hT X
  obtain ⟨v, st₀, t, T', L, h0, X', hL, e1, ⟨hv, hh⟩, st1⟩ := hr T hT X
  cases hv
  obtain ⟨t2, a1, b1⟩ := kk T' (by rw [e1, hh, h0]) (Stand.forget X' (fun q h => (hL q h).elim))
  exact ⟨t2, st1 t2 a1, b1⟩
theorem wr_S (S : CallFix p m c cc nL s args Ts own) (hM : Wr l y ws fr lo As D cl tys w0 w1 v) (cw : CallB R s args own index y bytes maxL ret ws { frames := fr, cells := 0, slots := 0, locals := lo } 0 0 n ∧ (Cond.static y).before args s = true)
    (hP : va_P D cl w0 H) (hK : va_K D cl tys s) (hD : va_D A w0) (hS : va_S A H0 H locs)
    (hn : As.length = n) (hsz : ls.size = nL) (hst : st = As.reverse ++ rest) (hW : 2 * (F0 m pc ls st).monitorRoom + (rest.map fun v => v.category).sum ≤ 8) (hdg : decode cc pc = .ok (.invokestatic index, 3)) (hf : cells ≤ R.cells ∧ slots ≤ R.slots)
    (kk : ∀ (H1 : Heap) (locs1 : List Loc), va_P D cl w1 H1 → (∀ q : Nat, q < H.size → ¬ w_A w0 q → H1[q]? = H[q]?) → H.size ≤ H1.size → va_S A H0 H1 locs1 → W p l e R s m args below meth c H1 locs1 cells slots Q (F0 m (pc + 3) ls (v.toList ++ rest))) : W p l e R s m args below meth c H locs cells slots Q (F0 m pc ls st) :=
  wr_go (a := As.toArray) (W.runS (As := As) (rest := rest) S hM cw ⟨wr_bl, fun U hU hW => ⟨rfl, by rw [hU]; exact hP, va_K.moved hW.alike hK, hD.weaken (fun _ _ _ _ => trivial)⟩⟩ rfl hn hsz hst hW hdg hf) hD hS kk
end RVC
end RV
theorem isPt_of {n0 j : Nat} (hn : n0 < 2 ^ 31) (hj : j < n0) : isPt (nI n0) (nI (j + 1)) := ⟨fun q => absurd ((nI_ltI (a := j + 1) (b := 1) (by omega) (by omega)).mp q) (by omega), nI_nlt (by omega) (by omega)⟩
theorem isCf_of {t0 k : Nat} (ht : t0 < 2 ^ 31) (hk : k < t0) : isCf (nI t0) (nI k) := ⟨nI_pos (by omega), nI_ge hk ht⟩
theorem isCf_nat {t0 : Nat} {k : Int32} (h : isCf (nI t0) k) (ht : t0 < 2 ^ 31) : ∃ k0 : Nat, k0 < t0 ∧ k = nI k0 := by
  obtain ⟨k0, h1, rfl⟩ := nI_of h.1
  refine ⟨k0, ?_, rfl⟩
  rcases Nat.lt_or_ge k0 t0 with q | q
  · exact q
  · exact absurd (nI_le q h1) h.2
theorem isPt_nat {n0 : Nat} {i : Int32} (h : isPt (nI n0) i) (hn : n0 < 2 ^ 31) : ∃ j : Nat, j < n0 ∧ i = nI (j + 1) := by
  have h0 : ¬ i < 0 := fun q => h.1 (by
    rw [Int32.lt_iff_toInt_lt] at q ⊢
    have e0 : (0 : Int32).toInt = 0 := by decide
    have e1 : (1 : Int32).toInt = 1 := by decide
    omega)
  obtain ⟨k0, h1, rfl⟩ := nI_of h0
  have h2 : ¬ k0 < 1 := fun q => h.1 (nI_lt (b := 1) q (by decide))
  refine ⟨k0 - 1, ?_, by rw [Nat.sub_add_cancel (by omega)]⟩
  rcases Nat.lt_or_ge n0 k0 with q | q
  · exact absurd (nI_lt q h1) h.2
  · omega
/-- what commitment(k) tells -/
noncomputable def cmC (S : Nat → Nat → Int32) (k : Int32) : Int32 := @ite _ (¬ S 0 0 < 2 ∧ isCf (S 0 2) k) (Classical.propDecidable _) (S 3 (nn k)) 0
theorem okN_bnum (b x : Int32) {q : Nat} (h : 0 < q) (hq : q < 2 ^ 31) : okN (bnum b x q) q := by
  unfold bnum
  by_cases c : b = 0
  · rw [if_pos c]; exact ⟨0, h, by omega, rfl⟩
  · rw [if_neg c]; exact ⟨md x q, md_lt x h, Nat.lt_trans (md_lt x h) hq, rfl⟩
theorem okN_md (x : Int32) {q : Nat} (h : 0 < q) (hq : q < 2 ^ 31) : okN (nI (md x q)) q := ⟨md x q, md_lt x h, Nat.lt_trans (md_lt x h) hq, rfl⟩
end
section
set_option maxRecDepth 100000 in
set_option maxHeartbeats 4000000 in
/-- demandStage(w) where the stage is w -/
theorem c_C_demandStage (l : Launch) (dC : Nat → ClassId) (dI : Nat → Nat → Nat) (Z : Nat → Nat) (cI cP : ClassId) (p0 q0 g0 h0 : Nat) (S : Nat → Nat → Int32) (w0 : Int32) (hst : S 0 0 = w0) : Rv l y_C_demandStage ws_C_demandStage 0 0 [.ref (Z 0), .int w0] (bC dC dI Z cI cP p0 q0 g0 h0 S) := by
  refine Met.ofW (cc := b_C_demandStage) (maxL := 2) (ret := none) (by decide) rfl ?_
  intro p e s m args below meth c s₁ B hml hv
  obtain ⟨rfl, hP, hK⟩ := hv
  have hx := B.exec
  have hb := B.bytes
  have hr := B.returns
  have hts : ∀ w ∈ AL, w.before ([.ref (Z 0), .int w0] : List Value).toArray s = true := fun w h => atoms_spec (ws := ws_C_demandStage) B.pre w (List.mem_cons_of_mem _ h)
  have hown : s.vm.findClass "DealtSecret" = some m.cls := findClass_of_methodNamed B.named
  have hlk := B.notSynchronized
  have hl := lv_entry ([.ref (Z 0), .int w0]) (n := 2) (Nat.le_of_ble_eq_true rfl)
  rw [lg_entry_eq]
  generalize (lg_sl ([.ref (Z 0), .int w0]) ++ List.replicate (2 - (lg_sl ([.ref (Z 0), .int w0])).length) Slot.unset).toArray = ls at hl ⊢
  have hl : lv_has ls 2 [(0, .ref (Z 0)), (1, .int w0)] := hl
  refine lv_aload_n hx hb d_C_demandStage_0 rfl (lv_at hl 0 rfl) ?_
  refine va_get (D := (dC, dI)) (ci := 2) (v := .int (S 0 0)) (C := "DealtSecret") (T := T_C) (N := 11) hx hb hts i_C hown hK hP 0 rfl rfl 5 (by decide) (hts _ k_106) (fun _ h9 => h9) rfl d_C_demandStage_1 ?_
  refine lv_iload_n hx hb d_C_demandStage_4 rfl (lv_at hl 1 rfl) ?_
  refine lv_icmp_eq (tgt := 18) hx hb d_C_demandStage_5 (by decide) (fun _ => ?_) (fun c_ => absurd (hst) c_)
  exact rv_v hx hb hr hlk d_C_demandStage_18
set_option maxRecDepth 100000 in
set_option maxHeartbeats 4000000 in
/-- demandParticipant(i) where there is one -/
theorem c_C_demandParticipant (l : Launch) (dC : Nat → ClassId) (dI : Nat → Nat → Nat) (Z : Nat → Nat) (cI cP : ClassId) (p0 q0 g0 h0 : Nat) (S : Nat → Nat → Int32) (i0 : Int32) (hi : isPt (S 0 1) i0) : Rv l y_C_demandParticipant ws_C_demandParticipant 1 21 [.ref (Z 0), .int i0] (bC dC dI Z cI cP p0 q0 g0 h0 S) := by
  refine Met.ofW (cc := b_C_demandParticipant) (maxL := 2) (ret := none) (by decide) rfl ?_
  intro p e s m args below meth c s₁ B hml hv
  obtain ⟨rfl, hP, hK⟩ := hv
  have hx := B.exec
  have hb := B.bytes
  have hr := B.returns
  have hts : ∀ w ∈ AL, w.before ([.ref (Z 0), .int i0] : List Value).toArray s = true := fun w h => atoms_spec (ws := ws_C_demandParticipant) B.pre w (List.mem_cons_of_mem _ h)
  have hown : s.vm.findClass "DealtSecret" = some m.cls := findClass_of_methodNamed B.named
  have hlk := B.notSynchronized
  have hl := lv_entry ([.ref (Z 0), .int i0]) (n := 2) (Nat.le_of_ble_eq_true rfl)
  rw [lg_entry_eq]
  generalize (lg_sl ([.ref (Z 0), .int i0]) ++ List.replicate (2 - (lg_sl ([.ref (Z 0), .int i0])).length) Slot.unset).toArray = ls at hl ⊢
  have hl : lv_has ls 2 [(0, .ref (Z 0)), (1, .int i0)] := hl
  refine lv_aload_n hx hb d_C_demandParticipant_0 rfl (lv_at hl 0 rfl) ?_
  refine lv_iload_n hx hb d_C_demandParticipant_1 rfl (lv_at hl 1 rfl) ?_
  refine ro_V (As := [.int i0]) (rest := []) (b := (Z 0)) ⟨hx, hb, hml, hown, hts⟩ (c_C_isParticipant l dC dI Z cI cP p0 q0 g0 h0 S i0) (cwV 1 hts (al_V k_156 k_157 k_632 k_1 k_158) rfl rfl rfl (by decide +kernel) ⟨Nat.le_of_ble_eq_true rfl, Nat.le_of_ble_eq_true rfl⟩) (fun U g mk a h => ⟨h.1, va_K.moved (u := U) (U := U.calling g mk a) (Vm.Alike.refl U.vm) h.2⟩) (va_recv hK hP (ci := 2) (q0 := 0) rfl rfl) (fun U hU hW => ⟨by rw [hU]; exact hP, va_K.moved hW.alike hK⟩) rfl hl.1 rfl (lv_room (Nat.le_of_ble_eq_true rfl)) d_C_demandParticipant_2 ⟨Nat.zero_le _, Nat.zero_le _⟩ ?_
  refine lv_if_ne (tgt := 18) hx hb d_C_demandParticipant_5 (by decide) (fun _ => ?_) (fun c_ => absurd c_ (fun q => mz_b0.mp q hi))
  exact rv_v hx hb hr hlk d_C_demandParticipant_18
set_option maxRecDepth 100000 in
set_option maxHeartbeats 4000000 in
/-- demandCoefficient(k) where there is one -/
theorem c_C_demandCoefficient (l : Launch) (dC : Nat → ClassId) (dI : Nat → Nat → Nat) (Z : Nat → Nat) (cI cP : ClassId) (p0 q0 g0 h0 : Nat) (S : Nat → Nat → Int32) (k0 : Int32) (hi : isCf (S 0 2) k0) : Rv l y_C_demandCoefficient ws_C_demandCoefficient 1 21 [.ref (Z 0), .int k0] (bC dC dI Z cI cP p0 q0 g0 h0 S) := by
  refine Met.ofW (cc := b_C_demandCoefficient) (maxL := 2) (ret := none) (by decide) rfl ?_
  intro p e s m args below meth c s₁ B hml hv
  obtain ⟨rfl, hP, hK⟩ := hv
  have hx := B.exec
  have hb := B.bytes
  have hr := B.returns
  have hts : ∀ w ∈ AL, w.before ([.ref (Z 0), .int k0] : List Value).toArray s = true := fun w h => atoms_spec (ws := ws_C_demandCoefficient) B.pre w (List.mem_cons_of_mem _ h)
  have hown : s.vm.findClass "DealtSecret" = some m.cls := findClass_of_methodNamed B.named
  have hlk := B.notSynchronized
  have hl := lv_entry ([.ref (Z 0), .int k0]) (n := 2) (Nat.le_of_ble_eq_true rfl)
  rw [lg_entry_eq]
  generalize (lg_sl ([.ref (Z 0), .int k0]) ++ List.replicate (2 - (lg_sl ([.ref (Z 0), .int k0])).length) Slot.unset).toArray = ls at hl ⊢
  have hl : lv_has ls 2 [(0, .ref (Z 0)), (1, .int k0)] := hl
  refine lv_aload_n hx hb d_C_demandCoefficient_0 rfl (lv_at hl 0 rfl) ?_
  refine lv_iload_n hx hb d_C_demandCoefficient_1 rfl (lv_at hl 1 rfl) ?_
  refine ro_V (As := [.int k0]) (rest := []) (b := (Z 0)) ⟨hx, hb, hml, hown, hts⟩ (c_C_isCoefficient l dC dI Z cI cP p0 q0 g0 h0 S k0) (cwV 1 hts (al_V k_149 k_150 k_631 k_1 k_151) rfl rfl rfl (by decide +kernel) ⟨Nat.le_of_ble_eq_true rfl, Nat.le_of_ble_eq_true rfl⟩) (fun U g mk a h => ⟨h.1, va_K.moved (u := U) (U := U.calling g mk a) (Vm.Alike.refl U.vm) h.2⟩) (va_recv hK hP (ci := 2) (q0 := 0) rfl rfl) (fun U hU hW => ⟨by rw [hU]; exact hP, va_K.moved hW.alike hK⟩) rfl hl.1 rfl (lv_room (Nat.le_of_ble_eq_true rfl)) d_C_demandCoefficient_2 ⟨Nat.zero_le _, Nat.zero_le _⟩ ?_
  refine lv_if_ne (tgt := 18) hx hb d_C_demandCoefficient_5 (by decide) (fun _ => ?_) (fun c_ => absurd c_ (fun q => mz_b0.mp q hi))
  exact rv_v hx hb hr hlk d_C_demandCoefficient_18
end
section
/-- accuse -/
def acS (S : Nat → Nat → Int32) (j : Nat) : Nat → Nat → Int32 := if ¬ S 7 j = 0 ∧ S 8 j = 0 then up S 8 j 1 else S
set_option maxRecDepth 100000 in
set_option maxHeartbeats 4000000 in
/-- coefficient(k, a, b) where it is allowed -/
theorem c_C_coefficient (l : Launch) (dC : Nat → ClassId) (dI : Nat → Nat → Nat) (Z : Nat → Nat) (cI cP : ClassId) (p0 q0 g0 h0 : Nat) (S : Nat → Nat → Int32) (k0 t0 : Nat) (x0 y0 : Int32) (hst : S 0 0 = 1) (ht : S 0 2 = nI t0) (ht7 : t0 ≤ 7) (hk0 : k0 < t0) (ok : okG p0 q0 g0 h0) : Wr l y_C_coefficient ws_C_coefficient 3 64 [.ref (Z 0), .int (nI k0), .int x0, .int y0] (dC, dI) cls (tysC cI cP) (wC Z cI cP p0 q0 g0 h0 (S)) (wC Z cI cP p0 q0 g0 h0 (up (up S 1 k0 (nI (md x0 q0))) 2 k0 (bnum (S 0 3) y0 q0))) (none) := by
  refine Met.ofW (cc := b_C_coefficient) (maxL := 4) (ret := none) (by decide) rfl ?_
  intro p e s m args below meth c s₁ B hml hv
  obtain ⟨rfl, hP, hK, hD0⟩ := hv
  have hx := B.exec
  have hb := B.bytes
  have hr := B.returns
  have hts : ∀ w ∈ AL, w.before ([.ref (Z 0), .int (nI k0), .int x0, .int y0] : List Value).toArray s = true := fun w h => atoms_spec (ws := ws_C_coefficient) B.pre w (List.mem_cons_of_mem _ h)
  have hown : s.vm.findClass "DealtSecret" = some m.cls := findClass_of_methodNamed B.named
  have hlk := B.notSynchronized
  have hl := lv_entry ([.ref (Z 0), .int (nI k0), .int x0, .int y0]) (n := 4) (Nat.le_of_ble_eq_true rfl)
  rw [lg_entry_eq]
  generalize (lg_sl ([.ref (Z 0), .int (nI k0), .int x0, .int y0]) ++ List.replicate (4 - (lg_sl ([.ref (Z 0), .int (nI k0), .int x0, .int y0])).length) Slot.unset).toArray = ls at hl ⊢
  have hl : lv_has ls 4 [(0, .ref (Z 0)), (1, .int (nI k0)), (2, .int x0), (3, .int y0)] := hl
  have hD := w_self hD0
  have hS : va_S (w_A (wC Z cI cP p0 q0 g0 h0 (S))) s.heap s.heap [] := va_S.rf
  obtain ⟨okp2, okp, okq2, okq, okg, okh⟩ := id ok
  refine lv_aload_n hx hb d_C_coefficient_0 rfl (lv_at hl 0 rfl) ?_
  refine lv_iconst (v := 1) hx hb d_C_coefficient_1 (by decide) ?_
  refine rv_V (As := [.int 1]) (rest := []) (b := (Z 0)) ⟨hx, hb, hml, hown, hts⟩ (c_C_demandStage l dC dI Z cI cP p0 q0 g0 h0 S 1 hst) (cwV 1 hts (al_V k_269 k_270 k_637 k_1 k_271) rfl rfl rfl (by decide +kernel) ⟨Nat.le_of_ble_eq_true rfl, Nat.le_of_ble_eq_true rfl⟩) (fun U g mk a h => ⟨h.1, va_K.moved (u := U) (U := U.calling g mk a) (Vm.Alike.refl U.vm) h.2⟩) (va_recv hK hP (ci := 2) (q0 := 0) rfl rfl) (fun U hU hW => ⟨by rw [hU]; exact hP, va_K.moved hW.alike hK⟩) rfl hl.1 rfl (lv_room (Nat.le_of_ble_eq_true rfl)) d_C_coefficient_2 ⟨Nat.zero_le _, Nat.zero_le _⟩ ?_
  refine lv_aload_n hx hb d_C_coefficient_5 rfl (lv_at hl 0 rfl) ?_
  refine lv_iload_n hx hb d_C_coefficient_6 rfl (lv_at hl 1 rfl) ?_
  refine rv_V (As := [.int (nI k0)]) (rest := []) (b := (Z 0)) ⟨hx, hb, hml, hown, hts⟩ (c_C_demandCoefficient l dC dI Z cI cP p0 q0 g0 h0 S (nI k0) (by rw [ht]; exact isCf_of (by omega) hk0)) (cwV 1 hts (al_V k_285 k_286 k_638 k_1 k_287) rfl rfl rfl (by decide +kernel) ⟨Nat.le_of_ble_eq_true rfl, Nat.le_of_ble_eq_true rfl⟩) (fun U g mk a h => ⟨h.1, va_K.moved (u := U) (U := U.calling g mk a) (Vm.Alike.refl U.vm) h.2⟩) (va_recv hK hP (ci := 2) (q0 := 0) rfl rfl) (fun U hU hW => ⟨by rw [hU]; exact hP, va_K.moved hW.alike hK⟩) rfl hl.1 rfl (lv_room (Nat.le_of_ble_eq_true rfl)) d_C_coefficient_7 ⟨Nat.zero_le _, Nat.zero_le _⟩ ?_
  refine lv_aload_n hx hb d_C_coefficient_10 rfl (lv_at hl 0 rfl) ?_
  refine va_get (D := (dC, dI)) (ci := 2) (v := .ref (Z 2)) (C := "DealtSecret") (T := T_C) (N := 11) hx hb hts i_C hown hK hP 0 rfl rfl 1 (by decide) (hts _ k_102) (fun _ h9 => h9) rfl d_C_coefficient_11 ?_
  refine lv_iload_n hx hb d_C_coefficient_14 rfl (lv_at hl 1 rfl) ?_
  refine lv_aload_n hx hb d_C_coefficient_15 rfl (lv_at hl 0 rfl) ?_
  refine va_get (D := (dC, dI)) (ci := 2) (v := .ref (Z 1)) (C := "DealtSecret") (T := T_C) (N := 11) hx hb hts i_C hown hK hP 0 rfl rfl 0 (by decide) (hts _ k_101) (fun _ h9 => h9) rfl d_C_coefficient_16 ?_
  refine lv_iload_n hx hb d_C_coefficient_19 rfl (lv_at hl 2 rfl) ?_
  refine ro_V (As := [.int x0]) (rest := [.int (nI k0), .ref (Z 2)]) (b := (Z 1)) ⟨hx, hb, hml, hown, hts⟩ (c_G_number l dC dI (Z 1) p0 q0 g0 h0 x0 (by omega) okq) (cwV 1 hts (al_V k_288 k_289 k_290 k_2 k_291) rfl rfl rfl (by decide +kernel) ⟨Nat.le_of_ble_eq_true rfl, Nat.le_of_ble_eq_true rfl⟩) (fun U g mk a h => ⟨h.1, va_K.moved (u := U) (U := U.calling g mk a) (Vm.Alike.refl U.vm) h.2⟩) (va_recv hK hP (ci := 0) (q0 := 1) rfl rfl) (fun U hU hW => ⟨by rw [hU]; exact (hP.sub [1] rfl), va_K.moved hW.alike (hK.sub [] rfl)⟩) rfl hl.1 rfl (lv_room (Nat.le_of_ble_eq_true rfl)) d_C_coefficient_20 ⟨Nat.zero_le _, Nat.zero_le _⟩ ?_
  refine va_iast hx hb hK hP hD hS 2 0 rfl rfl (vp_in_nI (by omega) (by decide)) d_C_coefficient_23 (fun H locs hP hD hS => ?_)
  rw [nI_clamp (by omega)] at hP hD
  have hP : va_P (dC, dI) cls (wC Z cI cP p0 q0 g0 h0 (up S 1 k0 (nI (md x0 q0)))) H := hP
  have hD : va_D (w_A (wC Z cI cP p0 q0 g0 h0 (S))) (wC Z cI cP p0 q0 g0 h0 (up S 1 k0 (nI (md x0 q0)))) := hD
  refine lv_aload_n hx hb d_C_coefficient_24 rfl (lv_at hl 0 rfl) ?_
  refine va_get (D := (dC, dI)) (ci := 2) (v := .ref (Z 3)) (C := "DealtSecret") (T := T_C) (N := 11) hx hb hts i_C hown hK hP 0 rfl rfl 2 (by decide) (hts _ k_103) (fun _ h9 => h9) rfl d_C_coefficient_25 ?_
  refine lv_iload_n hx hb d_C_coefficient_28 rfl (lv_at hl 1 rfl) ?_
  refine lv_aload_n hx hb d_C_coefficient_29 rfl (lv_at hl 0 rfl) ?_
  refine lv_iload_n hx hb d_C_coefficient_30 rfl (lv_at hl 3 rfl) ?_
  refine ro_V (As := [.int y0]) (rest := [.int (nI k0), .ref (Z 3)]) (b := (Z 0)) ⟨hx, hb, hml, hown, hts⟩ (c_C_blindNumber l dC dI Z cI cP p0 q0 g0 h0 (up S 1 k0 (nI (md x0 q0))) y0 ok) (cwV 1 hts (al_V k_295 k_296 k_639 k_1 k_297) rfl rfl rfl (by decide +kernel) ⟨Nat.le_of_ble_eq_true rfl, Nat.le_of_ble_eq_true rfl⟩) (fun U g mk a h => ⟨h.1, va_K.moved (u := U) (U := U.calling g mk a) (Vm.Alike.refl U.vm) h.2⟩) (va_recv hK hP (ci := 2) (q0 := 0) rfl rfl) (fun U hU hW => ⟨by rw [hU]; exact hP, va_K.moved hW.alike hK⟩) rfl hl.1 rfl (lv_room (Nat.le_of_ble_eq_true rfl)) d_C_coefficient_31 ⟨Nat.zero_le _, Nat.zero_le _⟩ ?_
  refine va_iast hx hb hK hP hD hS 3 0 rfl rfl (vp_in_nI (by omega) (by decide)) d_C_coefficient_34 (fun H locs hP hD hS => ?_)
  rw [nI_clamp (by omega)] at hP hD
  have hP : va_P (dC, dI) cls (wC Z cI cP p0 q0 g0 h0 (up (up S 1 k0 (nI (md x0 q0))) 2 k0 (bnum (S 0 3) y0 q0))) H := hP
  have hD : va_D (w_A (wC Z cI cP p0 q0 g0 h0 (S))) (wC Z cI cP p0 q0 g0 h0 (up (up S 1 k0 (nI (md x0 q0))) 2 k0 (bnum (S 0 3) y0 q0))) := hD
  exact wr_v hx hb hr hlk hP hS d_C_coefficient_35
set_option maxRecDepth 100000 in
set_option maxHeartbeats 4000000 in
/-- tamper(i, u, v) where it is allowed -/
theorem c_C_tamper (l : Launch) (dC : Nat → ClassId) (dI : Nat → Nat → Nat) (Z : Nat → Nat) (cI cP : ClassId) (p0 q0 g0 h0 : Nat) (S : Nat → Nat → Int32) (j n0 : Nat) (hn : S 0 1 = nI n0) (hn7 : n0 ≤ 7) (hj : j < n0) (x0 y0 : Int32) (hst : S 0 0 = 2) (ok : okG p0 q0 g0 h0) : Wr l y_C_tamper ws_C_tamper 3 64 [.ref (Z 0), .int (nI (j + 1)), .int x0, .int y0] (dC, dI) cls (tysC cI cP) (wC Z cI cP p0 q0 g0 h0 (S)) (wC Z cI cP p0 q0 g0 h0 (rcv S j (nI (md x0 q0)) (bnum (S 0 3) y0 q0))) (none) := by
  refine Met.ofW (cc := b_C_tamper) (maxL := 4) (ret := none) (by decide) rfl ?_
  intro p e s m args below meth c s₁ B hml hv
  obtain ⟨rfl, hP, hK, hD0⟩ := hv
  have hx := B.exec
  have hb := B.bytes
  have hr := B.returns
  have hts : ∀ w ∈ AL, w.before ([.ref (Z 0), .int (nI (j + 1)), .int x0, .int y0] : List Value).toArray s = true := fun w h => atoms_spec (ws := ws_C_tamper) B.pre w (List.mem_cons_of_mem _ h)
  have hown : s.vm.findClass "DealtSecret" = some m.cls := findClass_of_methodNamed B.named
  have hlk := B.notSynchronized
  have hl := lv_entry ([.ref (Z 0), .int (nI (j + 1)), .int x0, .int y0]) (n := 4) (Nat.le_of_ble_eq_true rfl)
  rw [lg_entry_eq]
  generalize (lg_sl ([.ref (Z 0), .int (nI (j + 1)), .int x0, .int y0]) ++ List.replicate (4 - (lg_sl ([.ref (Z 0), .int (nI (j + 1)), .int x0, .int y0])).length) Slot.unset).toArray = ls at hl ⊢
  have hl : lv_has ls 4 [(0, .ref (Z 0)), (1, .int (nI (j + 1))), (2, .int x0), (3, .int y0)] := hl
  have hD := w_self hD0
  have hS : va_S (w_A (wC Z cI cP p0 q0 g0 h0 (S))) s.heap s.heap [] := va_S.rf
  obtain ⟨okp2, okp, okq2, okq, okg, okh⟩ := id ok
  refine lv_aload_n hx hb d_C_tamper_0 rfl (lv_at hl 0 rfl) ?_
  refine lv_iconst (v := 2) hx hb d_C_tamper_1 (by decide) ?_
  refine rv_V (As := [.int 2]) (rest := []) (b := (Z 0)) ⟨hx, hb, hml, hown, hts⟩ (c_C_demandStage l dC dI Z cI cP p0 q0 g0 h0 S 2 hst) (cwV 1 hts (al_V k_269 k_270 k_637 k_1 k_271) rfl rfl rfl (by decide +kernel) ⟨Nat.le_of_ble_eq_true rfl, Nat.le_of_ble_eq_true rfl⟩) (fun U g mk a h => ⟨h.1, va_K.moved (u := U) (U := U.calling g mk a) (Vm.Alike.refl U.vm) h.2⟩) (va_recv hK hP (ci := 2) (q0 := 0) rfl rfl) (fun U hU hW => ⟨by rw [hU]; exact hP, va_K.moved hW.alike hK⟩) rfl hl.1 rfl (lv_room (Nat.le_of_ble_eq_true rfl)) d_C_tamper_2 ⟨Nat.zero_le _, Nat.zero_le _⟩ ?_
  refine lv_aload_n hx hb d_C_tamper_5 rfl (lv_at hl 0 rfl) ?_
  refine lv_iload_n hx hb d_C_tamper_6 rfl (lv_at hl 1 rfl) ?_
  refine rv_V (As := [.int (nI (j + 1))]) (rest := []) (b := (Z 0)) ⟨hx, hb, hml, hown, hts⟩ (c_C_demandParticipant l dC dI Z cI cP p0 q0 g0 h0 S (nI (j + 1)) (by rw [hn]; exact isPt_of (by omega) hj)) (cwV 1 hts (al_V k_338 k_339 k_645 k_1 k_340) rfl rfl rfl (by decide +kernel) ⟨Nat.le_of_ble_eq_true rfl, Nat.le_of_ble_eq_true rfl⟩) (fun U g mk a h => ⟨h.1, va_K.moved (u := U) (U := U.calling g mk a) (Vm.Alike.refl U.vm) h.2⟩) (va_recv hK hP (ci := 2) (q0 := 0) rfl rfl) (fun U hU hW => ⟨by rw [hU]; exact hP, va_K.moved hW.alike hK⟩) rfl hl.1 rfl (lv_room (Nat.le_of_ble_eq_true rfl)) d_C_tamper_7 ⟨Nat.zero_le _, Nat.zero_le _⟩ ?_
  refine lv_aload_n hx hb d_C_tamper_10 rfl (lv_at hl 0 rfl) ?_
  refine va_get (D := (dC, dI)) (ci := 2) (v := .ref (Z 5)) (C := "DealtSecret") (T := T_C) (N := 11) hx hb hts i_C hown hK hP 0 rfl rfl 4 (by decide) (hts _ k_105) (fun _ h9 => h9) rfl d_C_tamper_11 ?_
  refine lv_iload_n hx hb d_C_tamper_14 rfl (lv_at hl 1 rfl) ?_
  refine lv_iconst (v := 1) hx hb d_C_tamper_15 (by decide) ?_
  refine lv_isub hx hb d_C_tamper_16 ?_
  refine x_i (y := nI j) (nI_pred j) ?_
  refine va_aldq hx hb hK hP 5 1 rfl rfl (vp_in_nI (by omega) (by decide)) d_C_tamper_17 ?_
  refine x_v (y := .ref (Z (6 + j))) (by rw [nI_clamp (by omega)]; rfl) ?_
  refine lv_aload_n hx hb d_C_tamper_18 rfl (lv_at hl 0 rfl) ?_
  refine va_get (D := (dC, dI)) (ci := 2) (v := .ref (Z 1)) (C := "DealtSecret") (T := T_C) (N := 11) hx hb hts i_C hown hK hP 0 rfl rfl 0 (by decide) (hts _ k_101) (fun _ h9 => h9) rfl d_C_tamper_19 ?_
  refine lv_iload_n hx hb d_C_tamper_22 rfl (lv_at hl 2 rfl) ?_
  refine ro_V (As := [.int x0]) (rest := [.ref (Z (6 + j))]) (b := (Z 1)) ⟨hx, hb, hml, hown, hts⟩ (c_G_number l dC dI (Z 1) p0 q0 g0 h0 x0 (by omega) okq) (cwV 1 hts (al_V k_288 k_289 k_290 k_2 k_291) rfl rfl rfl (by decide +kernel) ⟨Nat.le_of_ble_eq_true rfl, Nat.le_of_ble_eq_true rfl⟩) (fun U g mk a h => ⟨h.1, va_K.moved (u := U) (U := U.calling g mk a) (Vm.Alike.refl U.vm) h.2⟩) (va_recv hK hP (ci := 0) (q0 := 1) rfl rfl) (fun U hU hW => ⟨by rw [hU]; exact (hP.sub [1] rfl), va_K.moved hW.alike (hK.sub [] rfl)⟩) rfl hl.1 rfl (lv_room (Nat.le_of_ble_eq_true rfl)) d_C_tamper_23 ⟨Nat.zero_le _, Nat.zero_le _⟩ ?_
  refine lv_aload_n hx hb d_C_tamper_26 rfl (lv_at hl 0 rfl) ?_
  refine lv_iload_n hx hb d_C_tamper_27 rfl (lv_at hl 3 rfl) ?_
  refine ro_V (As := [.int y0]) (rest := [.int (nI (md x0 q0)), .ref (Z (6 + j))]) (b := (Z 0)) ⟨hx, hb, hml, hown, hts⟩ (c_C_blindNumber l dC dI Z cI cP p0 q0 g0 h0 S y0 ok) (cwV 1 hts (al_V k_295 k_296 k_639 k_1 k_297) rfl rfl rfl (by decide +kernel) ⟨Nat.le_of_ble_eq_true rfl, Nat.le_of_ble_eq_true rfl⟩) (fun U g mk a h => ⟨h.1, va_K.moved (u := U) (U := U.calling g mk a) (Vm.Alike.refl U.vm) h.2⟩) (va_recv hK hP (ci := 2) (q0 := 0) rfl rfl) (fun U hU hW => ⟨by rw [hU]; exact hP, va_K.moved hW.alike hK⟩) rfl hl.1 rfl (lv_room (Nat.le_of_ble_eq_true rfl)) d_C_tamper_28 ⟨Nat.zero_le _, Nat.zero_le _⟩ ?_
  refine wr_V (As := [.int (nI (md x0 q0)), .int (bnum (S 0 3) y0 q0)]) (rest := []) (b := (Z (6 + j))) ⟨hx, hb, hml, hown, hts⟩ (c_P_receive l dC dI Z cI cP p0 q0 g0 h0 S j (by omega) (nI (md x0 q0)) (bnum (S 0 3) y0 q0)) (cwV 2 hts (al_V k_321 k_322 k_323 k_3 k_324) rfl rfl rfl (by decide +kernel) ⟨Nat.le_of_ble_eq_true rfl, Nat.le_of_ble_eq_true rfl⟩) (va_recv hK hP (ci := 1) (q0 := (6 + j)) rfl (w_part (by omega))) hP hK hD hS rfl hl.1 rfl (lv_room (Nat.le_of_ble_eq_true rfl)) d_C_tamper_31 ⟨Nat.zero_le _, Nat.zero_le _⟩ (fun H locs hP _ _ hS => ?_)
  have hD := w_addr hD (w_adC S (rcv S j (nI (md x0 q0)) (bnum (S 0 3) y0 q0)))
  exact wr_v hx hb hr hlk hP hS d_C_tamper_34
set_option maxRecDepth 100000 in
set_option maxHeartbeats 4000000 in
/-- forge(k, x) where it is allowed -/
theorem c_C_forge (l : Launch) (dC : Nat → ClassId) (dI : Nat → Nat → Nat) (Z : Nat → Nat) (cI cP : ClassId) (p0 q0 g0 h0 : Nat) (S : Nat → Nat → Int32) (k0 t0 x0 : Nat) (hst : S 0 0 = 2) (ht : S 0 2 = nI t0) (ht7 : t0 ≤ 7) (hk0 : k0 < t0) (hx1 : 1 ≤ x0) (hxp : x0 < p0) (ok : okG p0 q0 g0 h0) : Wr l y_C_forge ws_C_forge 2 42 [.ref (Z 0), .int (nI k0), .int (nI x0)] (dC, dI) cls (tysC cI cP) (wC Z cI cP p0 q0 g0 h0 (S)) (wC Z cI cP p0 q0 g0 h0 (up S 3 k0 (nI x0))) (none) := by
  refine Met.ofW (cc := b_C_forge) (maxL := 3) (ret := none) (by decide) rfl ?_
  intro p e s m args below meth c s₁ B hml hv
  obtain ⟨rfl, hP, hK, hD0⟩ := hv
  have hx := B.exec
  have hb := B.bytes
  have hr := B.returns
  have hts : ∀ w ∈ AL, w.before ([.ref (Z 0), .int (nI k0), .int (nI x0)] : List Value).toArray s = true := fun w h => atoms_spec (ws := ws_C_forge) B.pre w (List.mem_cons_of_mem _ h)
  have hown : s.vm.findClass "DealtSecret" = some m.cls := findClass_of_methodNamed B.named
  have hlk := B.notSynchronized
  have hl := lv_entry ([.ref (Z 0), .int (nI k0), .int (nI x0)]) (n := 3) (Nat.le_of_ble_eq_true rfl)
  rw [lg_entry_eq]
  generalize (lg_sl ([.ref (Z 0), .int (nI k0), .int (nI x0)]) ++ List.replicate (3 - (lg_sl ([.ref (Z 0), .int (nI k0), .int (nI x0)])).length) Slot.unset).toArray = ls at hl ⊢
  have hl : lv_has ls 3 [(0, .ref (Z 0)), (1, .int (nI k0)), (2, .int (nI x0))] := hl
  have hD := w_self hD0
  have hS : va_S (w_A (wC Z cI cP p0 q0 g0 h0 (S))) s.heap s.heap [] := va_S.rf
  obtain ⟨okp2, okp, okq2, okq, okg, okh⟩ := id ok
  refine lv_aload_n hx hb d_C_forge_0 rfl (lv_at hl 0 rfl) ?_
  refine lv_iconst (v := 2) hx hb d_C_forge_1 (by decide) ?_
  refine rv_V (As := [.int 2]) (rest := []) (b := (Z 0)) ⟨hx, hb, hml, hown, hts⟩ (c_C_demandStage l dC dI Z cI cP p0 q0 g0 h0 S 2 hst) (cwV 1 hts (al_V k_269 k_270 k_637 k_1 k_271) rfl rfl rfl (by decide +kernel) ⟨Nat.le_of_ble_eq_true rfl, Nat.le_of_ble_eq_true rfl⟩) (fun U g mk a h => ⟨h.1, va_K.moved (u := U) (U := U.calling g mk a) (Vm.Alike.refl U.vm) h.2⟩) (va_recv hK hP (ci := 2) (q0 := 0) rfl rfl) (fun U hU hW => ⟨by rw [hU]; exact hP, va_K.moved hW.alike hK⟩) rfl hl.1 rfl (lv_room (Nat.le_of_ble_eq_true rfl)) d_C_forge_2 ⟨Nat.zero_le _, Nat.zero_le _⟩ ?_
  refine lv_aload_n hx hb d_C_forge_5 rfl (lv_at hl 0 rfl) ?_
  refine lv_iload_n hx hb d_C_forge_6 rfl (lv_at hl 1 rfl) ?_
  refine rv_V (As := [.int (nI k0)]) (rest := []) (b := (Z 0)) ⟨hx, hb, hml, hown, hts⟩ (c_C_demandCoefficient l dC dI Z cI cP p0 q0 g0 h0 S (nI k0) (by rw [ht]; exact isCf_of (by omega) hk0)) (cwV 1 hts (al_V k_285 k_286 k_638 k_1 k_287) rfl rfl rfl (by decide +kernel) ⟨Nat.le_of_ble_eq_true rfl, Nat.le_of_ble_eq_true rfl⟩) (fun U g mk a h => ⟨h.1, va_K.moved (u := U) (U := U.calling g mk a) (Vm.Alike.refl U.vm) h.2⟩) (va_recv hK hP (ci := 2) (q0 := 0) rfl rfl) (fun U hU hW => ⟨by rw [hU]; exact hP, va_K.moved hW.alike hK⟩) rfl hl.1 rfl (lv_room (Nat.le_of_ble_eq_true rfl)) d_C_forge_7 ⟨Nat.zero_le _, Nat.zero_le _⟩ ?_
  refine lv_iload_n hx hb d_C_forge_10 rfl (lv_at hl 2 rfl) ?_
  refine lv_iconst (v := (nI 1)) hx hb d_C_forge_11 (by decide) ?_
  refine lv_icmp_lt (tgt := 26) hx hb d_C_forge_12 (by decide) (fun c_ => absurd c_ (nI_nlt hx1 (by omega))) (fun _ => ?_)
  refine lv_iload_n hx hb d_C_forge_15 rfl (lv_at hl 2 rfl) ?_
  refine lv_aload_n hx hb d_C_forge_16 rfl (lv_at hl 0 rfl) ?_
  refine va_get (D := (dC, dI)) (ci := 2) (v := .ref (Z 1)) (C := "DealtSecret") (T := T_C) (N := 11) hx hb hts i_C hown hK hP 0 rfl rfl 0 (by decide) (hts _ k_101) (fun _ h9 => h9) rfl d_C_forge_17 ?_
  refine va_get (D := (dC, dI)) (ci := 0) (v := .int (nI p0)) (C := "DealtSecret$Group") (T := T_G) (N := 4) hx hb hts i_G hown hK hP 1 rfl rfl 0 (by decide) (hts _ k_43) (fun _ h9 => h9) rfl d_C_forge_20 ?_
  refine lv_icmp_lt (tgt := 36) hx hb d_C_forge_23 (by decide) (fun _ => ?_) (fun c_ => absurd (nI_lt hxp okp) c_)
  refine lv_aload_n hx hb d_C_forge_36 rfl (lv_at hl 0 rfl) ?_
  refine va_get (D := (dC, dI)) (ci := 2) (v := .ref (Z 4)) (C := "DealtSecret") (T := T_C) (N := 11) hx hb hts i_C hown hK hP 0 rfl rfl 3 (by decide) (hts _ k_104) (fun _ h9 => h9) rfl d_C_forge_37 ?_
  refine lv_iload_n hx hb d_C_forge_40 rfl (lv_at hl 1 rfl) ?_
  refine lv_iload_n hx hb d_C_forge_41 rfl (lv_at hl 2 rfl) ?_
  refine va_iast hx hb hK hP hD hS 4 0 rfl rfl (vp_in_nI (by omega) (by decide)) d_C_forge_42 (fun H locs hP hD hS => ?_)
  rw [nI_clamp (by omega)] at hP hD
  have hP : va_P (dC, dI) cls (wC Z cI cP p0 q0 g0 h0 (up S 3 k0 (nI x0))) H := hP
  have hD : va_D (w_A (wC Z cI cP p0 q0 g0 h0 (S))) (wC Z cI cP p0 q0 g0 h0 (up S 3 k0 (nI x0))) := hD
  exact wr_v hx hb hr hlk hP hS d_C_forge_43
set_option maxRecDepth 100000 in
set_option maxHeartbeats 4000000 in
/-- corrupt(i) where it is allowed -/
theorem c_C_corrupt (l : Launch) (dC : Nat → ClassId) (dI : Nat → Nat → Nat) (Z : Nat → Nat) (cI cP : ClassId) (p0 q0 g0 h0 : Nat) (S : Nat → Nat → Int32) (j n0 : Nat) (hn : S 0 1 = nI n0) (hn7 : n0 ≤ 7) (hj : j < n0) (hst : S 0 0 = 1 ∨ S 0 0 = 2) : Wr l y_C_corrupt ws_C_corrupt 2 42 [.ref (Z 0), .int (nI (j + 1))] (dC, dI) cls (tysC cI cP) (wC Z cI cP p0 q0 g0 h0 (S)) (wC Z cI cP p0 q0 g0 h0 (up S 7 j 1)) (some (.int (mz_b (S 7 j = 0)))) := by
  refine Met.ofW (cc := b_C_corrupt) (maxL := 4) (ret := (some .boolean)) (by decide) rfl ?_
  intro p e s m args below meth c s₁ B hml hv
  obtain ⟨rfl, hP, hK, hD0⟩ := hv
  have hx := B.exec
  have hb := B.bytes
  have hr := B.returns
  have hts : ∀ w ∈ AL, w.before ([.ref (Z 0), .int (nI (j + 1))] : List Value).toArray s = true := fun w h => atoms_spec (ws := ws_C_corrupt) B.pre w (List.mem_cons_of_mem _ h)
  have hown : s.vm.findClass "DealtSecret" = some m.cls := findClass_of_methodNamed B.named
  have hlk := B.notSynchronized
  have hl := lv_entry ([.ref (Z 0), .int (nI (j + 1))]) (n := 4) (Nat.le_of_ble_eq_true rfl)
  rw [lg_entry_eq]
  generalize (lg_sl ([.ref (Z 0), .int (nI (j + 1))]) ++ List.replicate (4 - (lg_sl ([.ref (Z 0), .int (nI (j + 1))])).length) Slot.unset).toArray = ls at hl ⊢
  have hl : lv_has ls 4 [(0, .ref (Z 0)), (1, .int (nI (j + 1)))] := hl
  have hD := w_self hD0
  have hS : va_S (w_A (wC Z cI cP p0 q0 g0 h0 (S))) s.heap s.heap [] := va_S.rf
  refine lv_aload_n hx hb d_C_corrupt_0 rfl (lv_at hl 0 rfl) ?_
  refine va_get (D := (dC, dI)) (ci := 2) (v := .int (S 0 0)) (C := "DealtSecret") (T := T_C) (N := 11) hx hb hts i_C hown hK hP 0 rfl rfl 5 (by decide) (hts _ k_106) (fun _ h9 => h9) rfl d_C_corrupt_1 ?_
  refine lv_iconst (v := 1) hx hb d_C_corrupt_4 (by decide) ?_
  refine lv_icmp_eq (tgt := 26) hx hb d_C_corrupt_5 (by decide) (fun c5 => ?_) (fun c5 => ?_)
  · refine lv_aload_n hx hb d_C_corrupt_26 rfl (lv_at hl 0 rfl) ?_
    refine lv_iload_n hx hb d_C_corrupt_27 rfl (lv_at hl 1 rfl) ?_
    refine rv_V (As := [.int (nI (j + 1))]) (rest := []) (b := (Z 0)) ⟨hx, hb, hml, hown, hts⟩ (c_C_demandParticipant l dC dI Z cI cP p0 q0 g0 h0 S (nI (j + 1)) (by rw [hn]; exact isPt_of (by omega) hj)) (cwV 1 hts (al_V k_338 k_339 k_645 k_1 k_340) rfl rfl rfl (by decide +kernel) ⟨Nat.le_of_ble_eq_true rfl, Nat.le_of_ble_eq_true rfl⟩) (fun U g mk a h => ⟨h.1, va_K.moved (u := U) (U := U.calling g mk a) (Vm.Alike.refl U.vm) h.2⟩) (va_recv hK hP (ci := 2) (q0 := 0) rfl rfl) (fun U hU hW => ⟨by rw [hU]; exact hP, va_K.moved hW.alike hK⟩) rfl hl.1 rfl (lv_room (Nat.le_of_ble_eq_true rfl)) d_C_corrupt_28 ⟨Nat.zero_le _, Nat.zero_le _⟩ ?_
    refine lv_aload_n hx hb d_C_corrupt_31 rfl (lv_at hl 0 rfl) ?_
    refine va_get (D := (dC, dI)) (ci := 2) (v := .ref (Z 5)) (C := "DealtSecret") (T := T_C) (N := 11) hx hb hts i_C hown hK hP 0 rfl rfl 4 (by decide) (hts _ k_105) (fun _ h9 => h9) rfl d_C_corrupt_32 ?_
    refine lv_iload_n hx hb d_C_corrupt_35 rfl (lv_at hl 1 rfl) ?_
    refine lv_iconst (v := 1) hx hb d_C_corrupt_36 (by decide) ?_
    refine lv_isub hx hb d_C_corrupt_37 ?_
    refine x_i (y := nI j) (nI_pred j) ?_
    refine va_aldq hx hb hK hP 5 1 rfl rfl (vp_in_nI (by omega) (by decide)) d_C_corrupt_38 ?_
    refine x_v (y := .ref (Z (6 + j))) (by rw [nI_clamp (by omega)]; rfl) ?_
    refine lv_astore_n (lv' := [(2, .ref (Z (6 + j))), (0, .ref (Z 0)), (1, .int (nI (j + 1)))]) hx hb d_C_corrupt_39 rfl hl (by decide) rfl (fun ls hl => ?_)
    refine lv_aload_n hx hb d_C_corrupt_40 rfl (lv_at hl 0 rfl) ?_
    refine va_get (D := (dC, dI)) (ci := 1) (v := .int (S 7 j)) (C := "DealtSecret$Participant") (T := T_P) (N := 9) hx hb hts i_P hown hK hP (6 + j) (w_part (by omega)) rfl 3 (by decide) (hts _ k_71) (fun _ h9 => h9) rfl d_C_corrupt_41 ?_
    refine lv_if_ne (tgt := 51) hx hb d_C_corrupt_44 (by decide) (fun c44 => ?_) (fun c44 => ?_)
    · refine lv_iconst (v := 0) hx hb d_C_corrupt_51 (by decide) ?_
      refine x_i (y := mz_b (S 7 j = 0)) ((mz_bf c44).symm) ?_
      refine lv_istore_n (lv' := [(3, .int (mz_b (S 7 j = 0))), (2, .ref (Z (6 + j))), (0, .ref (Z 0)), (1, .int (nI (j + 1)))]) hx hb d_C_corrupt_52 rfl hl (by decide) rfl (fun ls hl => ?_)
      refine lv_aload_n hx hb d_C_corrupt_53 rfl (lv_at hl 1 rfl) ?_
      refine lv_iconst (v := 1) hx hb d_C_corrupt_54 (by decide) ?_
      refine va_put (D := (dC, dI)) (ci := 1) (v := .int 1) (ty := .boolean) (C := "DealtSecret$Participant") (T := T_P) (N := 9) hx hb hts i_P t_P t_P_ok n_P hown hK hP hD hS (6 + j) (w_part (by omega)) rfl 3 (by decide) (hts _ k_71) (fun _ h9 => h9) rfl (by decide +kernel) (rfl) (rfl) (Nat.le_of_ble_eq_true rfl) d_C_corrupt_55 (fun H locs hP hD hS => ?_)
      have hP : va_P (dC, dI) cls (wC Z cI cP p0 q0 g0 h0 (up S 7 j 1)) H := by rw [← w_pt3 (by omega)]; exact hP
      have hD : va_D (w_A (wC Z cI cP p0 q0 g0 h0 (S))) (wC Z cI cP p0 q0 g0 h0 (up S 7 j 1)) := by rw [← w_pt3 (by omega)]; exact hD
      refine lv_iload_n hx hb d_C_corrupt_58 rfl (lv_at hl 0 rfl) ?_
      exact wr_z hx hb hr hlk (by first | rfl | exact mz_bn _) hP hS d_C_corrupt_59
    · refine lv_iconst (v := 1) hx hb d_C_corrupt_47 (by decide) ?_
      refine x_i (y := mz_b (S 7 j = 0)) ((mz_bt c44).symm) ?_
      refine lv_goto (tgt := 52) hx hb d_C_corrupt_48 (by decide) ?_
      refine lv_istore_n (lv' := [(3, .int (mz_b (S 7 j = 0))), (2, .ref (Z (6 + j))), (0, .ref (Z 0)), (1, .int (nI (j + 1)))]) hx hb d_C_corrupt_52 rfl hl (by decide) rfl (fun ls hl => ?_)
      refine lv_aload_n hx hb d_C_corrupt_53 rfl (lv_at hl 1 rfl) ?_
      refine lv_iconst (v := 1) hx hb d_C_corrupt_54 (by decide) ?_
      refine va_put (D := (dC, dI)) (ci := 1) (v := .int 1) (ty := .boolean) (C := "DealtSecret$Participant") (T := T_P) (N := 9) hx hb hts i_P t_P t_P_ok n_P hown hK hP hD hS (6 + j) (w_part (by omega)) rfl 3 (by decide) (hts _ k_71) (fun _ h9 => h9) rfl (by decide +kernel) (rfl) (rfl) (Nat.le_of_ble_eq_true rfl) d_C_corrupt_55 (fun H locs hP hD hS => ?_)
      have hP : va_P (dC, dI) cls (wC Z cI cP p0 q0 g0 h0 (up S 7 j 1)) H := by rw [← w_pt3 (by omega)]; exact hP
      have hD : va_D (w_A (wC Z cI cP p0 q0 g0 h0 (S))) (wC Z cI cP p0 q0 g0 h0 (up S 7 j 1)) := by rw [← w_pt3 (by omega)]; exact hD
      refine lv_iload_n hx hb d_C_corrupt_58 rfl (lv_at hl 0 rfl) ?_
      exact wr_z hx hb hr hlk (by first | rfl | exact mz_bn _) hP hS d_C_corrupt_59
  · refine lv_aload_n hx hb d_C_corrupt_8 rfl (lv_at hl 0 rfl) ?_
    refine va_get (D := (dC, dI)) (ci := 2) (v := .int (S 0 0)) (C := "DealtSecret") (T := T_C) (N := 11) hx hb hts i_C hown hK hP 0 rfl rfl 5 (by decide) (hts _ k_106) (fun _ h9 => h9) rfl d_C_corrupt_9 ?_
    refine lv_iconst (v := 2) hx hb d_C_corrupt_12 (by decide) ?_
    refine lv_icmp_eq (tgt := 26) hx hb d_C_corrupt_13 (by decide) (fun _ => ?_) (fun c_ => absurd (hst.elim (fun q => absurd q c5) id) c_)
    refine lv_aload_n hx hb d_C_corrupt_26 rfl (lv_at hl 0 rfl) ?_
    refine lv_iload_n hx hb d_C_corrupt_27 rfl (lv_at hl 1 rfl) ?_
    refine rv_V (As := [.int (nI (j + 1))]) (rest := []) (b := (Z 0)) ⟨hx, hb, hml, hown, hts⟩ (c_C_demandParticipant l dC dI Z cI cP p0 q0 g0 h0 S (nI (j + 1)) (by rw [hn]; exact isPt_of (by omega) hj)) (cwV 1 hts (al_V k_338 k_339 k_645 k_1 k_340) rfl rfl rfl (by decide +kernel) ⟨Nat.le_of_ble_eq_true rfl, Nat.le_of_ble_eq_true rfl⟩) (fun U g mk a h => ⟨h.1, va_K.moved (u := U) (U := U.calling g mk a) (Vm.Alike.refl U.vm) h.2⟩) (va_recv hK hP (ci := 2) (q0 := 0) rfl rfl) (fun U hU hW => ⟨by rw [hU]; exact hP, va_K.moved hW.alike hK⟩) rfl hl.1 rfl (lv_room (Nat.le_of_ble_eq_true rfl)) d_C_corrupt_28 ⟨Nat.zero_le _, Nat.zero_le _⟩ ?_
    refine lv_aload_n hx hb d_C_corrupt_31 rfl (lv_at hl 0 rfl) ?_
    refine va_get (D := (dC, dI)) (ci := 2) (v := .ref (Z 5)) (C := "DealtSecret") (T := T_C) (N := 11) hx hb hts i_C hown hK hP 0 rfl rfl 4 (by decide) (hts _ k_105) (fun _ h9 => h9) rfl d_C_corrupt_32 ?_
    refine lv_iload_n hx hb d_C_corrupt_35 rfl (lv_at hl 1 rfl) ?_
    refine lv_iconst (v := 1) hx hb d_C_corrupt_36 (by decide) ?_
    refine lv_isub hx hb d_C_corrupt_37 ?_
    refine x_i (y := nI j) (nI_pred j) ?_
    refine va_aldq hx hb hK hP 5 1 rfl rfl (vp_in_nI (by omega) (by decide)) d_C_corrupt_38 ?_
    refine x_v (y := .ref (Z (6 + j))) (by rw [nI_clamp (by omega)]; rfl) ?_
    refine lv_astore_n (lv' := [(2, .ref (Z (6 + j))), (0, .ref (Z 0)), (1, .int (nI (j + 1)))]) hx hb d_C_corrupt_39 rfl hl (by decide) rfl (fun ls hl => ?_)
    refine lv_aload_n hx hb d_C_corrupt_40 rfl (lv_at hl 0 rfl) ?_
    refine va_get (D := (dC, dI)) (ci := 1) (v := .int (S 7 j)) (C := "DealtSecret$Participant") (T := T_P) (N := 9) hx hb hts i_P hown hK hP (6 + j) (w_part (by omega)) rfl 3 (by decide) (hts _ k_71) (fun _ h9 => h9) rfl d_C_corrupt_41 ?_
    refine lv_if_ne (tgt := 51) hx hb d_C_corrupt_44 (by decide) (fun c44 => ?_) (fun c44 => ?_)
    · refine lv_iconst (v := 0) hx hb d_C_corrupt_51 (by decide) ?_
      refine x_i (y := mz_b (S 7 j = 0)) ((mz_bf c44).symm) ?_
      refine lv_istore_n (lv' := [(3, .int (mz_b (S 7 j = 0))), (2, .ref (Z (6 + j))), (0, .ref (Z 0)), (1, .int (nI (j + 1)))]) hx hb d_C_corrupt_52 rfl hl (by decide) rfl (fun ls hl => ?_)
      refine lv_aload_n hx hb d_C_corrupt_53 rfl (lv_at hl 1 rfl) ?_
      refine lv_iconst (v := 1) hx hb d_C_corrupt_54 (by decide) ?_
      refine va_put (D := (dC, dI)) (ci := 1) (v := .int 1) (ty := .boolean) (C := "DealtSecret$Participant") (T := T_P) (N := 9) hx hb hts i_P t_P t_P_ok n_P hown hK hP hD hS (6 + j) (w_part (by omega)) rfl 3 (by decide) (hts _ k_71) (fun _ h9 => h9) rfl (by decide +kernel) (rfl) (rfl) (Nat.le_of_ble_eq_true rfl) d_C_corrupt_55 (fun H locs hP hD hS => ?_)
      have hP : va_P (dC, dI) cls (wC Z cI cP p0 q0 g0 h0 (up S 7 j 1)) H := by rw [← w_pt3 (by omega)]; exact hP
      have hD : va_D (w_A (wC Z cI cP p0 q0 g0 h0 (S))) (wC Z cI cP p0 q0 g0 h0 (up S 7 j 1)) := by rw [← w_pt3 (by omega)]; exact hD
      refine lv_iload_n hx hb d_C_corrupt_58 rfl (lv_at hl 0 rfl) ?_
      exact wr_z hx hb hr hlk (by first | rfl | exact mz_bn _) hP hS d_C_corrupt_59
    · refine lv_iconst (v := 1) hx hb d_C_corrupt_47 (by decide) ?_
      refine x_i (y := mz_b (S 7 j = 0)) ((mz_bt c44).symm) ?_
      refine lv_goto (tgt := 52) hx hb d_C_corrupt_48 (by decide) ?_
      refine lv_istore_n (lv' := [(3, .int (mz_b (S 7 j = 0))), (2, .ref (Z (6 + j))), (0, .ref (Z 0)), (1, .int (nI (j + 1)))]) hx hb d_C_corrupt_52 rfl hl (by decide) rfl (fun ls hl => ?_)
      refine lv_aload_n hx hb d_C_corrupt_53 rfl (lv_at hl 1 rfl) ?_
      refine lv_iconst (v := 1) hx hb d_C_corrupt_54 (by decide) ?_
      refine va_put (D := (dC, dI)) (ci := 1) (v := .int 1) (ty := .boolean) (C := "DealtSecret$Participant") (T := T_P) (N := 9) hx hb hts i_P t_P t_P_ok n_P hown hK hP hD hS (6 + j) (w_part (by omega)) rfl 3 (by decide) (hts _ k_71) (fun _ h9 => h9) rfl (by decide +kernel) (rfl) (rfl) (Nat.le_of_ble_eq_true rfl) d_C_corrupt_55 (fun H locs hP hD hS => ?_)
      have hP : va_P (dC, dI) cls (wC Z cI cP p0 q0 g0 h0 (up S 7 j 1)) H := by rw [← w_pt3 (by omega)]; exact hP
      have hD : va_D (w_A (wC Z cI cP p0 q0 g0 h0 (S))) (wC Z cI cP p0 q0 g0 h0 (up S 7 j 1)) := by rw [← w_pt3 (by omega)]; exact hD
      refine lv_iload_n hx hb d_C_corrupt_58 rfl (lv_at hl 0 rfl) ?_
      exact wr_z hx hb hr hlk (by first | rfl | exact mz_bn _) hP hS d_C_corrupt_59
set_option maxRecDepth 100000 in
set_option maxHeartbeats 4000000 in
/-- accuse(i) where it is allowed -/
theorem c_C_accuse (l : Launch) (dC : Nat → ClassId) (dI : Nat → Nat → Nat) (Z : Nat → Nat) (cI cP : ClassId) (p0 q0 g0 h0 : Nat) (S : Nat → Nat → Int32) (j n0 : Nat) (hn : S 0 1 = nI n0) (hn7 : n0 ≤ 7) (hj : j < n0) (hst : S 0 0 = 3) : Wr l y_C_accuse ws_C_accuse 2 42 [.ref (Z 0), .int (nI (j + 1))] (dC, dI) cls (tysC cI cP) (wC Z cI cP p0 q0 g0 h0 (S)) (wC Z cI cP p0 q0 g0 h0 (acS S j)) (some (.int (mz_b (¬ S 7 j = 0 ∧ S 8 j = 0)))) := by
  refine Met.ofW (cc := b_C_accuse) (maxL := 3) (ret := (some .boolean)) (by decide) rfl ?_
  intro p e s m args below meth c s₁ B hml hv
  obtain ⟨rfl, hP, hK, hD0⟩ := hv
  have hx := B.exec
  have hb := B.bytes
  have hr := B.returns
  have hts : ∀ w ∈ AL, w.before ([.ref (Z 0), .int (nI (j + 1))] : List Value).toArray s = true := fun w h => atoms_spec (ws := ws_C_accuse) B.pre w (List.mem_cons_of_mem _ h)
  have hown : s.vm.findClass "DealtSecret" = some m.cls := findClass_of_methodNamed B.named
  have hlk := B.notSynchronized
  have hl := lv_entry ([.ref (Z 0), .int (nI (j + 1))]) (n := 3) (Nat.le_of_ble_eq_true rfl)
  rw [lg_entry_eq]
  generalize (lg_sl ([.ref (Z 0), .int (nI (j + 1))]) ++ List.replicate (3 - (lg_sl ([.ref (Z 0), .int (nI (j + 1))])).length) Slot.unset).toArray = ls at hl ⊢
  have hl : lv_has ls 3 [(0, .ref (Z 0)), (1, .int (nI (j + 1)))] := hl
  have hD := w_self hD0
  have hS : va_S (w_A (wC Z cI cP p0 q0 g0 h0 (S))) s.heap s.heap [] := va_S.rf
  refine lv_aload_n hx hb d_C_accuse_0 rfl (lv_at hl 0 rfl) ?_
  refine lv_iconst (v := 3) hx hb d_C_accuse_1 (by decide) ?_
  refine rv_V (As := [.int 3]) (rest := []) (b := (Z 0)) ⟨hx, hb, hml, hown, hts⟩ (c_C_demandStage l dC dI Z cI cP p0 q0 g0 h0 S 3 hst) (cwV 1 hts (al_V k_269 k_270 k_637 k_1 k_271) rfl rfl rfl (by decide +kernel) ⟨Nat.le_of_ble_eq_true rfl, Nat.le_of_ble_eq_true rfl⟩) (fun U g mk a h => ⟨h.1, va_K.moved (u := U) (U := U.calling g mk a) (Vm.Alike.refl U.vm) h.2⟩) (va_recv hK hP (ci := 2) (q0 := 0) rfl rfl) (fun U hU hW => ⟨by rw [hU]; exact hP, va_K.moved hW.alike hK⟩) rfl hl.1 rfl (lv_room (Nat.le_of_ble_eq_true rfl)) d_C_accuse_2 ⟨Nat.zero_le _, Nat.zero_le _⟩ ?_
  refine lv_aload_n hx hb d_C_accuse_5 rfl (lv_at hl 0 rfl) ?_
  refine lv_iload_n hx hb d_C_accuse_6 rfl (lv_at hl 1 rfl) ?_
  refine rv_V (As := [.int (nI (j + 1))]) (rest := []) (b := (Z 0)) ⟨hx, hb, hml, hown, hts⟩ (c_C_demandParticipant l dC dI Z cI cP p0 q0 g0 h0 S (nI (j + 1)) (by rw [hn]; exact isPt_of (by omega) hj)) (cwV 1 hts (al_V k_338 k_339 k_645 k_1 k_340) rfl rfl rfl (by decide +kernel) ⟨Nat.le_of_ble_eq_true rfl, Nat.le_of_ble_eq_true rfl⟩) (fun U g mk a h => ⟨h.1, va_K.moved (u := U) (U := U.calling g mk a) (Vm.Alike.refl U.vm) h.2⟩) (va_recv hK hP (ci := 2) (q0 := 0) rfl rfl) (fun U hU hW => ⟨by rw [hU]; exact hP, va_K.moved hW.alike hK⟩) rfl hl.1 rfl (lv_room (Nat.le_of_ble_eq_true rfl)) d_C_accuse_7 ⟨Nat.zero_le _, Nat.zero_le _⟩ ?_
  refine lv_aload_n hx hb d_C_accuse_10 rfl (lv_at hl 0 rfl) ?_
  refine va_get (D := (dC, dI)) (ci := 2) (v := .ref (Z 5)) (C := "DealtSecret") (T := T_C) (N := 11) hx hb hts i_C hown hK hP 0 rfl rfl 4 (by decide) (hts _ k_105) (fun _ h9 => h9) rfl d_C_accuse_11 ?_
  refine lv_iload_n hx hb d_C_accuse_14 rfl (lv_at hl 1 rfl) ?_
  refine lv_iconst (v := 1) hx hb d_C_accuse_15 (by decide) ?_
  refine lv_isub hx hb d_C_accuse_16 ?_
  refine x_i (y := nI j) (nI_pred j) ?_
  refine va_aldq hx hb hK hP 5 1 rfl rfl (vp_in_nI (by omega) (by decide)) d_C_accuse_17 ?_
  refine x_v (y := .ref (Z (6 + j))) (by rw [nI_clamp (by omega)]; rfl) ?_
  refine lv_astore_n (lv' := [(2, .ref (Z (6 + j))), (0, .ref (Z 0)), (1, .int (nI (j + 1)))]) hx hb d_C_accuse_18 rfl hl (by decide) rfl (fun ls hl => ?_)
  refine lv_aload_n hx hb d_C_accuse_19 rfl (lv_at hl 0 rfl) ?_
  refine va_get (D := (dC, dI)) (ci := 1) (v := .int (S 7 j)) (C := "DealtSecret$Participant") (T := T_P) (N := 9) hx hb hts i_P hown hK hP (6 + j) (w_part (by omega)) rfl 3 (by decide) (hts _ k_71) (fun _ h9 => h9) rfl d_C_accuse_20 ?_
  refine lv_if_eq (tgt := 33) hx hb d_C_accuse_23 (by decide) (fun c23 => ?_) (fun c23 => ?_)
  · refine lv_iconst (v := 0) hx hb d_C_accuse_33 (by decide) ?_
    have hne : ¬ (¬ S 7 j = 0 ∧ S 8 j = 0) := fun q => by first | exact q.1 c23 | exact c30 q.2
    have hP : va_P (dC, dI) cls (wC Z cI cP p0 q0 g0 h0 (acS S j)) s.heap := by rw [show acS S j = S from if_neg hne]; exact hP
    refine x_i (y := mz_b (¬ S 7 j = 0 ∧ S 8 j = 0)) (mz_bf hne).symm ?_
    exact wr_z hx hb hr hlk (mz_bn _) hP hS d_C_accuse_34
  · refine lv_aload_n hx hb d_C_accuse_26 rfl (lv_at hl 0 rfl) ?_
    refine va_get (D := (dC, dI)) (ci := 1) (v := .int (S 8 j)) (C := "DealtSecret$Participant") (T := T_P) (N := 9) hx hb hts i_P hown hK hP (6 + j) (w_part (by omega)) rfl 4 (by decide) (hts _ k_73) (fun _ h9 => h9) rfl d_C_accuse_27 ?_
    refine lv_if_eq (tgt := 35) hx hb d_C_accuse_30 (by decide) (fun c30 => ?_) (fun c30 => ?_)
    · refine lv_aload_n hx hb d_C_accuse_35 rfl (lv_at hl 0 rfl) ?_
      refine lv_iconst (v := 1) hx hb d_C_accuse_36 (by decide) ?_
      refine va_put (D := (dC, dI)) (ci := 1) (v := .int 1) (ty := .boolean) (C := "DealtSecret$Participant") (T := T_P) (N := 9) hx hb hts i_P t_P t_P_ok n_P hown hK hP hD hS (6 + j) (w_part (by omega)) rfl 4 (by decide) (hts _ k_73) (fun _ h9 => h9) rfl (by decide +kernel) (rfl) (rfl) (Nat.le_of_ble_eq_true rfl) d_C_accuse_37 (fun H locs hP hD hS => ?_)
      have hP : va_P (dC, dI) cls (wC Z cI cP p0 q0 g0 h0 (up S 8 j 1)) H := by rw [← w_pt4 (by omega)]; exact hP
      have hD : va_D (w_A (wC Z cI cP p0 q0 g0 h0 (S))) (wC Z cI cP p0 q0 g0 h0 (up S 8 j 1)) := by rw [← w_pt4 (by omega)]; exact hD
      refine lv_iconst (v := 1) hx hb d_C_accuse_40 (by decide) ?_
      have hP : va_P (dC, dI) cls (wC Z cI cP p0 q0 g0 h0 (acS S j)) H := by rw [show acS S j = up S 8 j 1 from if_pos ⟨c23, c30⟩]; exact hP
      refine x_i (y := mz_b (¬ S 7 j = 0 ∧ S 8 j = 0)) (mz_bt ⟨c23, c30⟩).symm ?_
      exact wr_z hx hb hr hlk (mz_bn _) hP hS d_C_accuse_41
    · refine lv_iconst (v := 0) hx hb d_C_accuse_33 (by decide) ?_
      have hne : ¬ (¬ S 7 j = 0 ∧ S 8 j = 0) := fun q => by first | exact q.1 c23 | exact c30 q.2
      have hP : va_P (dC, dI) cls (wC Z cI cP p0 q0 g0 h0 (acS S j)) s.heap := by rw [show acS S j = S from if_neg hne]; exact hP
      refine x_i (y := mz_b (¬ S 7 j = 0 ∧ S 8 j = 0)) (mz_bf hne).symm ?_
      exact wr_z hx hb hr hlk (mz_bn _) hP hS d_C_accuse_34
end
section
/-- a pair is laid before all -/
def lyS (p0 q0 g0 h0 t0 : Nat) (S : Nat → Nat → Int32) (j u0 v0 : Nat) : Nat → Nat → Int32 :=
  if (g0 ^ u0 % p0) * (h0 ^ v0 % p0) % p0 = mz_cp (fun k => nn (S 3 k)) (j + 1) 0 t0 % p0 then
    if S 10 j = 0 then kpt S j (nI u0) (nI v0)
    else if S 0 4 = 0 ∧ ¬ nI v0 = S 12 j then up (up S 0 4 1) 0 5 (nI ((md (nI (nn (S 11 j)) - nI u0) q0) * ((md (nI v0 - nI (nn (S 12 j))) q0) ^ (q0 - 2) % q0) % q0)) else S
  else S
def anS (S : Nat → Nat → Int32) (j : Nat) (x y : Int32) (q0 : Nat) : Nat → Nat → Int32 := rcv S j (nI (md x q0)) (bnum (S 0 3) y q0)
def okK (S : Nat → Nat → Int32) (j q0 : Nat) : Prop := ¬ S 10 j = 0 → okN (S 11 j) q0 ∧ okN (S 12 j) q0
set_option maxRecDepth 100000 in
set_option maxHeartbeats 4000000 in
/-- layOpen(one, u, v) -/
theorem c_C_layOpen (l : Launch) (dC : Nat → ClassId) (dI : Nat → Nat → Nat) (Z : Nat → Nat) (cI cP : ClassId) (p0 q0 g0 h0 : Nat) (S : Nat → Nat → Int32) (j u0 v0 t0 : Nat) (hj : j < 7) (hN : S 4 j = nI (j + 1)) (hu0 : u0 < q0) (hv0 : v0 < q0) (hKp : okK S j q0) (ht : S 0 2 = nI t0) (ht7 : t0 ≤ 7) (ok : okG p0 q0 g0 h0) (hC : ∀ k, k < t0 → okN (S 3 k) p0) : Wr l y_C_layOpen ws_C_layOpen 4 95 [.ref (Z 0), .ref (Z (6 + j)), .int (nI u0), .int (nI v0)] (dC, dI) cls (tysC cI cP) (wC Z cI cP p0 q0 g0 h0 (S)) (wC Z cI cP p0 q0 g0 h0 (lyS p0 q0 g0 h0 t0 S j u0 v0)) (some (.int (mz_b ((g0 ^ u0 % p0) * (h0 ^ v0 % p0) % p0 = mz_cp (fun k => nn (S 3 k)) (j + 1) 0 t0 % p0)))) := by
  refine Met.ofW (cc := b_C_layOpen) (maxL := 4) (ret := (some .boolean)) (by decide) rfl ?_
  intro p e s m args below meth c s₁ B hml hv
  obtain ⟨rfl, hP, hK, hD0⟩ := hv
  have hx := B.exec
  have hb := B.bytes
  have hr := B.returns
  have hts : ∀ w ∈ AL, w.before ([.ref (Z 0), .ref (Z (6 + j)), .int (nI u0), .int (nI v0)] : List Value).toArray s = true := fun w h => atoms_spec (ws := ws_C_layOpen) B.pre w (List.mem_cons_of_mem _ h)
  have hown : s.vm.findClass "DealtSecret" = some m.cls := findClass_of_methodNamed B.named
  have hlk := B.notSynchronized
  have hl := lv_entry ([.ref (Z 0), .ref (Z (6 + j)), .int (nI u0), .int (nI v0)]) (n := 4) (Nat.le_of_ble_eq_true rfl)
  rw [lg_entry_eq]
  generalize (lg_sl ([.ref (Z 0), .ref (Z (6 + j)), .int (nI u0), .int (nI v0)]) ++ List.replicate (4 - (lg_sl ([.ref (Z 0), .ref (Z (6 + j)), .int (nI u0), .int (nI v0)])).length) Slot.unset).toArray = ls at hl ⊢
  have hl : lv_has ls 4 [(0, .ref (Z 0)), (1, .ref (Z (6 + j))), (2, .int (nI u0)), (3, .int (nI v0))] := hl
  have hD := w_self hD0
  have hS : va_S (w_A (wC Z cI cP p0 q0 g0 h0 (S))) s.heap s.heap [] := va_S.rf
  obtain ⟨okp2, okp, okq2, okq, okg, okh⟩ := id ok
  refine lv_aload_n hx hb d_C_layOpen_0 rfl (lv_at hl 0 rfl) ?_
  refine lv_aload_n hx hb d_C_layOpen_1 rfl (lv_at hl 1 rfl) ?_
  refine lv_iload_n hx hb d_C_layOpen_2 rfl (lv_at hl 2 rfl) ?_
  refine lv_iload_n hx hb d_C_layOpen_3 rfl (lv_at hl 3 rfl) ?_
  refine ro_V (As := [.ref (Z (6 + j)), .int (nI u0), .int (nI v0)]) (rest := []) (b := (Z 0)) ⟨hx, hb, hml, hown, hts⟩ (c_C_isPairRight l dC dI Z cI cP p0 q0 g0 h0 S j u0 v0 t0 hj hN (by omega) (by omega) ht ht7 ok hC) (cwV 3 hts (al_V k_166 k_167 k_634 k_1 k_168) rfl rfl rfl (by decide +kernel) ⟨Nat.le_of_ble_eq_true rfl, Nat.le_of_ble_eq_true rfl⟩) (fun U g mk a h => ⟨h.1, va_K.moved (u := U) (U := U.calling g mk a) (Vm.Alike.refl U.vm) h.2⟩) (va_recv hK hP (ci := 2) (q0 := 0) rfl rfl) (fun U hU hW => ⟨by rw [hU]; exact hP, va_K.moved hW.alike hK⟩) rfl hl.1 rfl (lv_room (Nat.le_of_ble_eq_true rfl)) d_C_layOpen_4 ⟨Nat.zero_le _, Nat.zero_le _⟩ ?_
  refine lv_if_ne (tgt := 12) hx hb d_C_layOpen_7 (by decide) (fun c7 => ?_) (fun c7 => ?_)
  · have hf : (g0 ^ u0 % p0) * (h0 ^ v0 % p0) % p0 = mz_cp (fun k => nn (S 3 k)) (j + 1) 0 t0 % p0 := Classical.not_not.mp (fun z => c7 (mz_bf z))
    refine lv_aload_n hx hb d_C_layOpen_12 rfl (lv_at hl 1 rfl) ?_
    refine va_get (D := (dC, dI)) (ci := 1) (v := .int (S 10 j)) (C := "DealtSecret$Participant") (T := T_P) (N := 9) hx hb hts i_P hown hK hP (6 + j) (w_part (hj)) rfl 6 (by decide) (hts _ k_77) (fun _ h9 => h9) rfl d_C_layOpen_13 ?_
    refine lv_if_ne (tgt := 28) hx hb d_C_layOpen_16 (by decide) (fun c16 => ?_) (fun c16 => ?_)
    · have hkk := hKp c16
      have hk1 := hkk.1.lt
      have hk2 := hkk.2.lt
      have hmu := md_lt (nI (nn (S 11 j)) - nI u0) (q := q0) (by omega)
      have hmv := md_lt (nI v0 - nI (nn (S 12 j))) (q := q0) (by omega)
      refine lv_aload_n hx hb d_C_layOpen_28 rfl (lv_at hl 0 rfl) ?_
      refine va_get (D := (dC, dI)) (ci := 2) (v := .int (S 0 4)) (C := "DealtSecret") (T := T_C) (N := 11) hx hb hts i_C hown hK hP 0 rfl rfl 9 (by decide) (hts _ k_110) (fun _ h9 => h9) rfl d_C_layOpen_29 ?_
      refine lv_if_ne (tgt := 83) hx hb d_C_layOpen_32 (by decide) (fun c32 => ?_) (fun c32 => ?_)
      · refine lv_iconst (v := 1) hx hb d_C_layOpen_83 (by decide) ?_
        have e9 : lyS p0 q0 g0 h0 t0 S j u0 v0 = S := (if_pos hf).trans ((if_neg c16).trans (if_neg (by first | exact fun q => c32 q.1 | exact fun q => q.2 c40)))
        have hP := (show va_P (dC, dI) cls (wC Z cI cP p0 q0 g0 h0 (lyS p0 q0 g0 h0 t0 S j u0 v0)) _ by rw [e9]; exact hP)
        refine x_i (y := mz_b ((g0 ^ u0 % p0) * (h0 ^ v0 % p0) % p0 = mz_cp (fun k => nn (S 3 k)) (j + 1) 0 t0 % p0)) ((mz_bt hf).symm) ?_
        exact wr_z hx hb hr hlk (mz_bn _) hP hS d_C_layOpen_84
      · refine lv_iload_n hx hb d_C_layOpen_35 rfl (lv_at hl 3 rfl) ?_
        refine lv_aload_n hx hb d_C_layOpen_36 rfl (lv_at hl 1 rfl) ?_
        refine va_get (D := (dC, dI)) (ci := 1) (v := .int (S 12 j)) (C := "DealtSecret$Participant") (T := T_P) (N := 9) hx hb hts i_P hown hK hP (6 + j) (w_part (hj)) rfl 8 (by decide) (hts _ k_81) (fun _ h9 => h9) rfl d_C_layOpen_37 ?_
        refine lv_icmp_eq (tgt := 83) hx hb d_C_layOpen_40 (by decide) (fun c40 => ?_) (fun c40 => ?_)
        · refine lv_iconst (v := 1) hx hb d_C_layOpen_83 (by decide) ?_
          have e9 : lyS p0 q0 g0 h0 t0 S j u0 v0 = S := (if_pos hf).trans ((if_neg c16).trans (if_neg (by first | exact fun q => c32 q.1 | exact fun q => q.2 c40)))
          have hP := (show va_P (dC, dI) cls (wC Z cI cP p0 q0 g0 h0 (lyS p0 q0 g0 h0 t0 S j u0 v0)) _ by rw [e9]; exact hP)
          refine x_i (y := mz_b ((g0 ^ u0 % p0) * (h0 ^ v0 % p0) % p0 = mz_cp (fun k => nn (S 3 k)) (j + 1) 0 t0 % p0)) ((mz_bt hf).symm) ?_
          exact wr_z hx hb hr hlk (mz_bn _) hP hS d_C_layOpen_84
        · refine lv_aload_n hx hb d_C_layOpen_43 rfl (lv_at hl 0 rfl) ?_
          refine lv_iconst (v := 1) hx hb d_C_layOpen_44 (by decide) ?_
          refine va_put (D := (dC, dI)) (ci := 2) (v := .int 1) (ty := .boolean) (C := "DealtSecret") (T := T_C) (N := 11) hx hb hts i_C t_C t_C_ok n_C hown hK hP hD hS 0 rfl rfl 9 (by decide) (hts _ k_110) (fun _ h9 => h9) rfl (by decide +kernel) (rfl) (rfl) (Nat.le_of_ble_eq_true rfl) d_C_layOpen_45 (fun H locs hP hD hS => ?_)
          have hP : va_P (dC, dI) cls (wC Z cI cP p0 q0 g0 h0 (up S 0 4 1)) H := hP
          have hD : va_D (w_A (wC Z cI cP p0 q0 g0 h0 (S))) (wC Z cI cP p0 q0 g0 h0 (up S 0 4 1)) := hD
          refine lv_aload_n hx hb d_C_layOpen_48 rfl (lv_at hl 0 rfl) ?_
          refine lv_aload_n hx hb d_C_layOpen_49 rfl (lv_at hl 0 rfl) ?_
          refine va_get (D := (dC, dI)) (ci := 2) (v := .ref (Z 1)) (C := "DealtSecret") (T := T_C) (N := 11) hx hb hts i_C hown hK hP 0 rfl rfl 0 (by decide) (hts _ k_101) (fun _ h9 => h9) rfl d_C_layOpen_50 ?_
          refine lv_aload_n hx hb d_C_layOpen_53 rfl (lv_at hl 0 rfl) ?_
          refine va_get (D := (dC, dI)) (ci := 2) (v := .ref (Z 1)) (C := "DealtSecret") (T := T_C) (N := 11) hx hb hts i_C hown hK hP 0 rfl rfl 0 (by decide) (hts _ k_101) (fun _ h9 => h9) rfl d_C_layOpen_54 ?_
          refine lv_aload_n hx hb d_C_layOpen_57 rfl (lv_at hl 1 rfl) ?_
          refine va_get (D := (dC, dI)) (ci := 1) (v := .int ((up S 0 4 1) 11 j)) (C := "DealtSecret$Participant") (T := T_P) (N := 9) hx hb hts i_P hown hK hP (6 + j) (w_part (hj)) rfl 7 (by decide) (hts _ k_79) (fun _ h9 => h9) rfl d_C_layOpen_58 ?_
          refine x_i (y := nI (nn (S 11 j))) (hkk.1.eq) ?_
          refine lv_iload_n hx hb d_C_layOpen_61 rfl (lv_at hl 2 rfl) ?_
          refine ro_V (As := [.int (nI (nn (S 11 j))), .int (nI u0)]) (rest := [.ref (Z 1), .ref (Z 0)]) (b := (Z 1)) ⟨hx, hb, hml, hown, hts⟩ (c_G_minus l dC dI (Z 1) p0 q0 g0 h0 (nn (S 11 j)) u0 (by omega) okq) (cwV 2 hts (al_V k_392 k_393 k_394 k_2 k_395) rfl rfl rfl (by decide +kernel) ⟨Nat.le_of_ble_eq_true rfl, Nat.le_of_ble_eq_true rfl⟩) (fun U g mk a h => ⟨h.1, va_K.moved (u := U) (U := U.calling g mk a) (Vm.Alike.refl U.vm) h.2⟩) (va_recv hK hP (ci := 0) (q0 := 1) rfl rfl) (fun U hU hW => ⟨by rw [hU]; exact (hP.sub [1] rfl), va_K.moved hW.alike (hK.sub [] rfl)⟩) rfl hl.1 rfl (lv_room (Nat.le_of_ble_eq_true rfl)) d_C_layOpen_62 ⟨Nat.zero_le _, Nat.zero_le _⟩ ?_
          refine lv_aload_n hx hb d_C_layOpen_65 rfl (lv_at hl 0 rfl) ?_
          refine va_get (D := (dC, dI)) (ci := 2) (v := .ref (Z 1)) (C := "DealtSecret") (T := T_C) (N := 11) hx hb hts i_C hown hK hP 0 rfl rfl 0 (by decide) (hts _ k_101) (fun _ h9 => h9) rfl d_C_layOpen_66 ?_
          refine lv_iload_n hx hb d_C_layOpen_69 rfl (lv_at hl 3 rfl) ?_
          refine lv_aload_n hx hb d_C_layOpen_70 rfl (lv_at hl 1 rfl) ?_
          refine va_get (D := (dC, dI)) (ci := 1) (v := .int ((up S 0 4 1) 12 j)) (C := "DealtSecret$Participant") (T := T_P) (N := 9) hx hb hts i_P hown hK hP (6 + j) (w_part (hj)) rfl 8 (by decide) (hts _ k_81) (fun _ h9 => h9) rfl d_C_layOpen_71 ?_
          refine x_i (y := nI (nn (S 12 j))) (hkk.2.eq) ?_
          refine ro_V (As := [.int (nI v0), .int (nI (nn (S 12 j)))]) (rest := [.int (nI (md (nI (nn (S 11 j)) - nI u0) q0)), .ref (Z 1), .ref (Z 0)]) (b := (Z 1)) ⟨hx, hb, hml, hown, hts⟩ (c_G_minus l dC dI (Z 1) p0 q0 g0 h0 v0 (nn (S 12 j)) (by omega) okq) (cwV 2 hts (al_V k_392 k_393 k_394 k_2 k_395) rfl rfl rfl (by decide +kernel) ⟨Nat.le_of_ble_eq_true rfl, Nat.le_of_ble_eq_true rfl⟩) (fun U g mk a h => ⟨h.1, va_K.moved (u := U) (U := U.calling g mk a) (Vm.Alike.refl U.vm) h.2⟩) (va_recv hK hP (ci := 0) (q0 := 1) rfl rfl) (fun U hU hW => ⟨by rw [hU]; exact (hP.sub [1] rfl), va_K.moved hW.alike (hK.sub [] rfl)⟩) rfl hl.1 rfl (lv_room (Nat.le_of_ble_eq_true rfl)) d_C_layOpen_74 ⟨Nat.zero_le _, Nat.zero_le _⟩ ?_
          refine ro_V (As := [.int (nI (md (nI (nn (S 11 j)) - nI u0) q0)), .int (nI (md (nI v0 - nI (nn (S 12 j))) q0))]) (rest := [.ref (Z 0)]) (b := (Z 1)) ⟨hx, hb, hml, hown, hts⟩ (c_G_quotient l dC dI (Z 1) p0 q0 g0 h0 (md (nI (nn (S 11 j)) - nI u0) q0) (md (nI v0 - nI (nn (S 12 j))) q0) (by omega) (by omega) okq2 okq) (cwV 2 hts (al_V k_397 k_398 k_399 k_2 k_400) rfl rfl rfl (by decide +kernel) ⟨Nat.le_of_ble_eq_true rfl, Nat.le_of_ble_eq_true rfl⟩) (fun U g mk a h => ⟨h.1, va_K.moved (u := U) (U := U.calling g mk a) (Vm.Alike.refl U.vm) h.2⟩) (va_recv hK hP (ci := 0) (q0 := 1) rfl rfl) (fun U hU hW => ⟨by rw [hU]; exact (hP.sub [1] rfl), va_K.moved hW.alike (hK.sub [] rfl)⟩) rfl hl.1 rfl (lv_room (Nat.le_of_ble_eq_true rfl)) d_C_layOpen_77 ⟨Nat.zero_le _, Nat.zero_le _⟩ ?_
          refine va_put (D := (dC, dI)) (ci := 2) (v := .int (nI ((md (nI (nn (S 11 j)) - nI u0) q0) * ((md (nI v0 - nI (nn (S 12 j))) q0) ^ (q0 - 2) % q0) % q0))) (ty := .int) (C := "DealtSecret") (T := T_C) (N := 11) hx hb hts i_C t_C t_C_ok n_C hown hK hP hD hS 0 rfl rfl 10 (by decide) (hts _ k_111) (fun _ h9 => h9) rfl (by decide +kernel) (rfl) (rfl) (Nat.le_of_ble_eq_true rfl) d_C_layOpen_80 (fun H locs hP hD hS => ?_)
          have hP : va_P (dC, dI) cls (wC Z cI cP p0 q0 g0 h0 (up (up S 0 4 1) 0 5 (nI ((md (nI (nn (S 11 j)) - nI u0) q0) * ((md (nI v0 - nI (nn (S 12 j))) q0) ^ (q0 - 2) % q0) % q0)))) H := hP
          have hD : va_D (w_A (wC Z cI cP p0 q0 g0 h0 (S))) (wC Z cI cP p0 q0 g0 h0 (up (up S 0 4 1) 0 5 (nI ((md (nI (nn (S 11 j)) - nI u0) q0) * ((md (nI v0 - nI (nn (S 12 j))) q0) ^ (q0 - 2) % q0) % q0)))) := hD
          refine lv_iconst (v := 1) hx hb d_C_layOpen_83 (by decide) ?_
          have e9 : lyS p0 q0 g0 h0 t0 S j u0 v0 = up (up S 0 4 1) 0 5 (nI ((md (nI (nn (S 11 j)) - nI u0) q0) * ((md (nI v0 - nI (nn (S 12 j))) q0) ^ (q0 - 2) % q0) % q0)) := (if_pos hf).trans ((if_neg c16).trans (if_pos ⟨c32, c40⟩))
          have hP := (show va_P (dC, dI) cls (wC Z cI cP p0 q0 g0 h0 (lyS p0 q0 g0 h0 t0 S j u0 v0)) _ by rw [e9]; exact hP)
          refine x_i (y := mz_b ((g0 ^ u0 % p0) * (h0 ^ v0 % p0) % p0 = mz_cp (fun k => nn (S 3 k)) (j + 1) 0 t0 % p0)) ((mz_bt hf).symm) ?_
          exact wr_z hx hb hr hlk (mz_bn _) hP hS d_C_layOpen_84
    · refine lv_aload_n hx hb d_C_layOpen_19 rfl (lv_at hl 1 rfl) ?_
      refine lv_iload_n hx hb d_C_layOpen_20 rfl (lv_at hl 2 rfl) ?_
      refine lv_iload_n hx hb d_C_layOpen_21 rfl (lv_at hl 3 rfl) ?_
      refine wr_V (As := [.int (nI u0), .int (nI v0)]) (rest := []) (b := (Z (6 + j))) ⟨hx, hb, hml, hown, hts⟩ (c_P_keep l dC dI Z cI cP p0 q0 g0 h0 S j hj (nI u0) (nI v0)) (cwV 2 hts (al_V k_388 k_389 k_390 k_3 k_391) rfl rfl rfl (by decide +kernel) ⟨Nat.le_of_ble_eq_true rfl, Nat.le_of_ble_eq_true rfl⟩) (va_recv hK hP (ci := 1) (q0 := (6 + j)) rfl (w_part (hj))) hP hK hD hS rfl hl.1 rfl (lv_room (Nat.le_of_ble_eq_true rfl)) d_C_layOpen_22 ⟨Nat.zero_le _, Nat.zero_le _⟩ (fun H locs hP _ _ hS => ?_)
      have hD := w_addr hD (w_adC S (kpt S j (nI u0) (nI v0)))
      refine lv_goto (tgt := 83) hx hb d_C_layOpen_25 (by decide) ?_
      refine lv_iconst (v := 1) hx hb d_C_layOpen_83 (by decide) ?_
      have e9 : lyS p0 q0 g0 h0 t0 S j u0 v0 = kpt S j (nI u0) (nI v0) := (if_pos hf).trans (if_pos c16)
      have hP := (show va_P (dC, dI) cls (wC Z cI cP p0 q0 g0 h0 (lyS p0 q0 g0 h0 t0 S j u0 v0)) _ by rw [e9]; exact hP)
      refine x_i (y := mz_b ((g0 ^ u0 % p0) * (h0 ^ v0 % p0) % p0 = mz_cp (fun k => nn (S 3 k)) (j + 1) 0 t0 % p0)) ((mz_bt hf).symm) ?_
      exact wr_z hx hb hr hlk (mz_bn _) hP hS d_C_layOpen_84
  · have hf : ¬ (g0 ^ u0 % p0) * (h0 ^ v0 % p0) % p0 = mz_cp (fun k => nn (S 3 k)) (j + 1) 0 t0 % p0 := mz_b0.mp c7
    refine lv_iconst (v := 0) hx hb d_C_layOpen_10 (by decide) ?_
    have e9 : lyS p0 q0 g0 h0 t0 S j u0 v0 = S := if_neg hf
    have hP := (show va_P (dC, dI) cls (wC Z cI cP p0 q0 g0 h0 (lyS p0 q0 g0 h0 t0 S j u0 v0)) _ by rw [e9]; exact hP)
    refine x_i (y := mz_b ((g0 ^ u0 % p0) * (h0 ^ v0 % p0) % p0 = mz_cp (fun k => nn (S 3 k)) (j + 1) 0 t0 % p0)) ((mz_bf hf).symm) ?_
    exact wr_z hx hb hr hlk (mz_bn _) hP hS d_C_layOpen_11
set_option maxRecDepth 100000 in
set_option maxHeartbeats 4000000 in
/-- open(i) where it is allowed -/
theorem c_C_open (l : Launch) (dC : Nat → ClassId) (dI : Nat → Nat → Nat) (Z : Nat → Nat) (cI cP : ClassId) (p0 q0 g0 h0 : Nat) (S : Nat → Nat → Int32) (j n0 : Nat) (hn : S 0 1 = nI n0) (hn7 : n0 ≤ 7) (hj : j < n0) (t0 : Nat) (hst : S 0 0 = 5) (hu : okN (S 5 j) q0) (hv : okN (S 6 j) q0) (hKp : okK S j q0) (hN : S 4 j = nI (j + 1)) (ht : S 0 2 = nI t0) (ht7 : t0 ≤ 7) (ok : okG p0 q0 g0 h0) (hC : ∀ k, k < t0 → okN (S 3 k) p0) : Wr l y_C_open ws_C_open 5 118 [.ref (Z 0), .int (nI (j + 1))] (dC, dI) cls (tysC cI cP) (wC Z cI cP p0 q0 g0 h0 (S)) (wC Z cI cP p0 q0 g0 h0 (lyS p0 q0 g0 h0 t0 S j (nn (S 5 j)) (nn (S 6 j)))) (some (.int (mz_b ((g0 ^ (nn (S 5 j)) % p0) * (h0 ^ (nn (S 6 j)) % p0) % p0 = mz_cp (fun k => nn (S 3 k)) (j + 1) 0 t0 % p0)))) := by
  refine Met.ofW (cc := b_C_open) (maxL := 3) (ret := (some .boolean)) (by decide) rfl ?_
  intro p e s m args below meth c s₁ B hml hv
  obtain ⟨rfl, hP, hK, hD0⟩ := hv
  have hx := B.exec
  have hb := B.bytes
  have hr := B.returns
  have hts : ∀ w ∈ AL, w.before ([.ref (Z 0), .int (nI (j + 1))] : List Value).toArray s = true := fun w h => atoms_spec (ws := ws_C_open) B.pre w (List.mem_cons_of_mem _ h)
  have hown : s.vm.findClass "DealtSecret" = some m.cls := findClass_of_methodNamed B.named
  have hlk := B.notSynchronized
  have hl := lv_entry ([.ref (Z 0), .int (nI (j + 1))]) (n := 3) (Nat.le_of_ble_eq_true rfl)
  rw [lg_entry_eq]
  generalize (lg_sl ([.ref (Z 0), .int (nI (j + 1))]) ++ List.replicate (3 - (lg_sl ([.ref (Z 0), .int (nI (j + 1))])).length) Slot.unset).toArray = ls at hl ⊢
  have hl : lv_has ls 3 [(0, .ref (Z 0)), (1, .int (nI (j + 1)))] := hl
  have hD := w_self hD0
  have hS : va_S (w_A (wC Z cI cP p0 q0 g0 h0 (S))) s.heap s.heap [] := va_S.rf
  obtain ⟨okp2, okp, okq2, okq, okg, okh⟩ := id ok
  refine lv_aload_n hx hb d_C_open_0 rfl (lv_at hl 0 rfl) ?_
  refine lv_iconst (v := 5) hx hb d_C_open_1 (by decide) ?_
  refine rv_V (As := [.int 5]) (rest := []) (b := (Z 0)) ⟨hx, hb, hml, hown, hts⟩ (c_C_demandStage l dC dI Z cI cP p0 q0 g0 h0 S 5 hst) (cwV 1 hts (al_V k_269 k_270 k_637 k_1 k_271) rfl rfl rfl (by decide +kernel) ⟨Nat.le_of_ble_eq_true rfl, Nat.le_of_ble_eq_true rfl⟩) (fun U g mk a h => ⟨h.1, va_K.moved (u := U) (U := U.calling g mk a) (Vm.Alike.refl U.vm) h.2⟩) (va_recv hK hP (ci := 2) (q0 := 0) rfl rfl) (fun U hU hW => ⟨by rw [hU]; exact hP, va_K.moved hW.alike hK⟩) rfl hl.1 rfl (lv_room (Nat.le_of_ble_eq_true rfl)) d_C_open_2 ⟨Nat.zero_le _, Nat.zero_le _⟩ ?_
  refine lv_aload_n hx hb d_C_open_5 rfl (lv_at hl 0 rfl) ?_
  refine lv_iload_n hx hb d_C_open_6 rfl (lv_at hl 1 rfl) ?_
  refine rv_V (As := [.int (nI (j + 1))]) (rest := []) (b := (Z 0)) ⟨hx, hb, hml, hown, hts⟩ (c_C_demandParticipant l dC dI Z cI cP p0 q0 g0 h0 S (nI (j + 1)) (by rw [hn]; exact isPt_of (by omega) hj)) (cwV 1 hts (al_V k_338 k_339 k_645 k_1 k_340) rfl rfl rfl (by decide +kernel) ⟨Nat.le_of_ble_eq_true rfl, Nat.le_of_ble_eq_true rfl⟩) (fun U g mk a h => ⟨h.1, va_K.moved (u := U) (U := U.calling g mk a) (Vm.Alike.refl U.vm) h.2⟩) (va_recv hK hP (ci := 2) (q0 := 0) rfl rfl) (fun U hU hW => ⟨by rw [hU]; exact hP, va_K.moved hW.alike hK⟩) rfl hl.1 rfl (lv_room (Nat.le_of_ble_eq_true rfl)) d_C_open_7 ⟨Nat.zero_le _, Nat.zero_le _⟩ ?_
  refine lv_aload_n hx hb d_C_open_10 rfl (lv_at hl 0 rfl) ?_
  refine va_get (D := (dC, dI)) (ci := 2) (v := .ref (Z 5)) (C := "DealtSecret") (T := T_C) (N := 11) hx hb hts i_C hown hK hP 0 rfl rfl 4 (by decide) (hts _ k_105) (fun _ h9 => h9) rfl d_C_open_11 ?_
  refine lv_iload_n hx hb d_C_open_14 rfl (lv_at hl 1 rfl) ?_
  refine lv_iconst (v := 1) hx hb d_C_open_15 (by decide) ?_
  refine lv_isub hx hb d_C_open_16 ?_
  refine x_i (y := nI j) (nI_pred j) ?_
  refine va_aldq hx hb hK hP 5 1 rfl rfl (vp_in_nI (by omega) (by decide)) d_C_open_17 ?_
  refine x_v (y := .ref (Z (6 + j))) (by rw [nI_clamp (by omega)]; rfl) ?_
  refine lv_astore_n (lv' := [(2, .ref (Z (6 + j))), (0, .ref (Z 0)), (1, .int (nI (j + 1)))]) hx hb d_C_open_18 rfl hl (by decide) rfl (fun ls hl => ?_)
  refine lv_aload_n hx hb d_C_open_19 rfl (lv_at hl 1 rfl) ?_
  refine lv_aload_n hx hb d_C_open_20 rfl (lv_at hl 0 rfl) ?_
  refine lv_aload_n hx hb d_C_open_21 rfl (lv_at hl 0 rfl) ?_
  refine va_get (D := (dC, dI)) (ci := 1) (v := .int (S 5 j)) (C := "DealtSecret$Participant") (T := T_P) (N := 9) hx hb hts i_P hown hK hP (6 + j) (w_part (by omega)) rfl 1 (by decide) (hts _ k_67) (fun _ h9 => h9) rfl d_C_open_22 ?_
  refine x_i (y := nI (nn (S 5 j))) (hu.eq) ?_
  refine lv_aload_n hx hb d_C_open_25 rfl (lv_at hl 0 rfl) ?_
  refine va_get (D := (dC, dI)) (ci := 1) (v := .int (S 6 j)) (C := "DealtSecret$Participant") (T := T_P) (N := 9) hx hb hts i_P hown hK hP (6 + j) (w_part (by omega)) rfl 2 (by decide) (hts _ k_69) (fun _ h9 => h9) rfl d_C_open_26 ?_
  refine x_i (y := nI (nn (S 6 j))) (hv.eq) ?_
  refine wr_V (As := [.ref (Z (6 + j)), .int (nI (nn (S 5 j))), .int (nI (nn (S 6 j)))]) (rest := []) (b := (Z 0)) ⟨hx, hb, hml, hown, hts⟩ (c_C_layOpen l dC dI Z cI cP p0 q0 g0 h0 S j (nn (S 5 j)) (nn (S 6 j)) t0 (by omega) hN hu.lt hv.lt hKp ht ht7 ok hC) (cwV 3 hts (al_V k_385 k_386 k_646 k_1 k_387) rfl rfl rfl (by decide +kernel) ⟨Nat.le_of_ble_eq_true rfl, Nat.le_of_ble_eq_true rfl⟩) (va_recv hK hP (ci := 2) (q0 := 0) rfl rfl) hP hK hD hS rfl hl.1 rfl (lv_room (Nat.le_of_ble_eq_true rfl)) d_C_open_29 ⟨Nat.zero_le _, Nat.zero_le _⟩ (fun H locs hP _ _ hS => ?_)
  have hD := w_addr hD (w_adC S (lyS p0 q0 g0 h0 t0 S j (nn (S 5 j)) (nn (S 6 j))))
  exact wr_z hx hb hr hlk (by first | rfl | exact mz_bn _) hP hS d_C_open_32
set_option maxRecDepth 100000 in
set_option maxHeartbeats 4000000 in
/-- show(i, u, v) where it is allowed -/
theorem c_C_show (l : Launch) (dC : Nat → ClassId) (dI : Nat → Nat → Nat) (Z : Nat → Nat) (cI cP : ClassId) (p0 q0 g0 h0 : Nat) (S : Nat → Nat → Int32) (j n0 : Nat) (hn : S 0 1 = nI n0) (hn7 : n0 ≤ 7) (hj : j < n0) (t0 : Nat) (x0 y0 : Int32) (hst : S 0 0 = 5) (hKp : okK S j q0) (hN : S 4 j = nI (j + 1)) (ht : S 0 2 = nI t0) (ht7 : t0 ≤ 7) (ok : okG p0 q0 g0 h0) (hC : ∀ k, k < t0 → okN (S 3 k) p0) : Wr l y_C_show ws_C_show 5 118 [.ref (Z 0), .int (nI (j + 1)), .int x0, .int y0] (dC, dI) cls (tysC cI cP) (wC Z cI cP p0 q0 g0 h0 (S)) (wC Z cI cP p0 q0 g0 h0 (lyS p0 q0 g0 h0 t0 S j (md x0 q0) (md y0 q0))) (some (.int (mz_b ((g0 ^ (md x0 q0) % p0) * (h0 ^ (md y0 q0) % p0) % p0 = mz_cp (fun k => nn (S 3 k)) (j + 1) 0 t0 % p0)))) := by
  refine Met.ofW (cc := b_C_show) (maxL := 4) (ret := (some .boolean)) (by decide) rfl ?_
  intro p e s m args below meth c s₁ B hml hv
  obtain ⟨rfl, hP, hK, hD0⟩ := hv
  have hx := B.exec
  have hb := B.bytes
  have hr := B.returns
  have hts : ∀ w ∈ AL, w.before ([.ref (Z 0), .int (nI (j + 1)), .int x0, .int y0] : List Value).toArray s = true := fun w h => atoms_spec (ws := ws_C_show) B.pre w (List.mem_cons_of_mem _ h)
  have hown : s.vm.findClass "DealtSecret" = some m.cls := findClass_of_methodNamed B.named
  have hlk := B.notSynchronized
  have hl := lv_entry ([.ref (Z 0), .int (nI (j + 1)), .int x0, .int y0]) (n := 4) (Nat.le_of_ble_eq_true rfl)
  rw [lg_entry_eq]
  generalize (lg_sl ([.ref (Z 0), .int (nI (j + 1)), .int x0, .int y0]) ++ List.replicate (4 - (lg_sl ([.ref (Z 0), .int (nI (j + 1)), .int x0, .int y0])).length) Slot.unset).toArray = ls at hl ⊢
  have hl : lv_has ls 4 [(0, .ref (Z 0)), (1, .int (nI (j + 1))), (2, .int x0), (3, .int y0)] := hl
  have hD := w_self hD0
  have hS : va_S (w_A (wC Z cI cP p0 q0 g0 h0 (S))) s.heap s.heap [] := va_S.rf
  obtain ⟨okp2, okp, okq2, okq, okg, okh⟩ := id ok
  refine lv_aload_n hx hb d_C_show_0 rfl (lv_at hl 0 rfl) ?_
  refine lv_iconst (v := 5) hx hb d_C_show_1 (by decide) ?_
  refine rv_V (As := [.int 5]) (rest := []) (b := (Z 0)) ⟨hx, hb, hml, hown, hts⟩ (c_C_demandStage l dC dI Z cI cP p0 q0 g0 h0 S 5 hst) (cwV 1 hts (al_V k_269 k_270 k_637 k_1 k_271) rfl rfl rfl (by decide +kernel) ⟨Nat.le_of_ble_eq_true rfl, Nat.le_of_ble_eq_true rfl⟩) (fun U g mk a h => ⟨h.1, va_K.moved (u := U) (U := U.calling g mk a) (Vm.Alike.refl U.vm) h.2⟩) (va_recv hK hP (ci := 2) (q0 := 0) rfl rfl) (fun U hU hW => ⟨by rw [hU]; exact hP, va_K.moved hW.alike hK⟩) rfl hl.1 rfl (lv_room (Nat.le_of_ble_eq_true rfl)) d_C_show_2 ⟨Nat.zero_le _, Nat.zero_le _⟩ ?_
  refine lv_aload_n hx hb d_C_show_5 rfl (lv_at hl 0 rfl) ?_
  refine lv_iload_n hx hb d_C_show_6 rfl (lv_at hl 1 rfl) ?_
  refine rv_V (As := [.int (nI (j + 1))]) (rest := []) (b := (Z 0)) ⟨hx, hb, hml, hown, hts⟩ (c_C_demandParticipant l dC dI Z cI cP p0 q0 g0 h0 S (nI (j + 1)) (by rw [hn]; exact isPt_of (by omega) hj)) (cwV 1 hts (al_V k_338 k_339 k_645 k_1 k_340) rfl rfl rfl (by decide +kernel) ⟨Nat.le_of_ble_eq_true rfl, Nat.le_of_ble_eq_true rfl⟩) (fun U g mk a h => ⟨h.1, va_K.moved (u := U) (U := U.calling g mk a) (Vm.Alike.refl U.vm) h.2⟩) (va_recv hK hP (ci := 2) (q0 := 0) rfl rfl) (fun U hU hW => ⟨by rw [hU]; exact hP, va_K.moved hW.alike hK⟩) rfl hl.1 rfl (lv_room (Nat.le_of_ble_eq_true rfl)) d_C_show_7 ⟨Nat.zero_le _, Nat.zero_le _⟩ ?_
  refine lv_aload_n hx hb d_C_show_10 rfl (lv_at hl 0 rfl) ?_
  refine lv_aload_n hx hb d_C_show_11 rfl (lv_at hl 0 rfl) ?_
  refine va_get (D := (dC, dI)) (ci := 2) (v := .ref (Z 5)) (C := "DealtSecret") (T := T_C) (N := 11) hx hb hts i_C hown hK hP 0 rfl rfl 4 (by decide) (hts _ k_105) (fun _ h9 => h9) rfl d_C_show_12 ?_
  refine lv_iload_n hx hb d_C_show_15 rfl (lv_at hl 1 rfl) ?_
  refine lv_iconst (v := 1) hx hb d_C_show_16 (by decide) ?_
  refine lv_isub hx hb d_C_show_17 ?_
  refine x_i (y := nI j) (nI_pred j) ?_
  refine va_aldq hx hb hK hP 5 1 rfl rfl (vp_in_nI (by omega) (by decide)) d_C_show_18 ?_
  refine x_v (y := .ref (Z (6 + j))) (by rw [nI_clamp (by omega)]; rfl) ?_
  refine lv_aload_n hx hb d_C_show_19 rfl (lv_at hl 0 rfl) ?_
  refine va_get (D := (dC, dI)) (ci := 2) (v := .ref (Z 1)) (C := "DealtSecret") (T := T_C) (N := 11) hx hb hts i_C hown hK hP 0 rfl rfl 0 (by decide) (hts _ k_101) (fun _ h9 => h9) rfl d_C_show_20 ?_
  refine lv_iload_n hx hb d_C_show_23 rfl (lv_at hl 2 rfl) ?_
  refine ro_V (As := [.int x0]) (rest := [.ref (Z (6 + j)), .ref (Z 0)]) (b := (Z 1)) ⟨hx, hb, hml, hown, hts⟩ (c_G_number l dC dI (Z 1) p0 q0 g0 h0 x0 (by omega) okq) (cwV 1 hts (al_V k_288 k_289 k_290 k_2 k_291) rfl rfl rfl (by decide +kernel) ⟨Nat.le_of_ble_eq_true rfl, Nat.le_of_ble_eq_true rfl⟩) (fun U g mk a h => ⟨h.1, va_K.moved (u := U) (U := U.calling g mk a) (Vm.Alike.refl U.vm) h.2⟩) (va_recv hK hP (ci := 0) (q0 := 1) rfl rfl) (fun U hU hW => ⟨by rw [hU]; exact (hP.sub [1] rfl), va_K.moved hW.alike (hK.sub [] rfl)⟩) rfl hl.1 rfl (lv_room (Nat.le_of_ble_eq_true rfl)) d_C_show_24 ⟨Nat.zero_le _, Nat.zero_le _⟩ ?_
  refine lv_aload_n hx hb d_C_show_27 rfl (lv_at hl 0 rfl) ?_
  refine va_get (D := (dC, dI)) (ci := 2) (v := .ref (Z 1)) (C := "DealtSecret") (T := T_C) (N := 11) hx hb hts i_C hown hK hP 0 rfl rfl 0 (by decide) (hts _ k_101) (fun _ h9 => h9) rfl d_C_show_28 ?_
  refine lv_iload_n hx hb d_C_show_31 rfl (lv_at hl 3 rfl) ?_
  refine ro_V (As := [.int y0]) (rest := [.int (nI (md x0 q0)), .ref (Z (6 + j)), .ref (Z 0)]) (b := (Z 1)) ⟨hx, hb, hml, hown, hts⟩ (c_G_number l dC dI (Z 1) p0 q0 g0 h0 y0 (by omega) okq) (cwV 1 hts (al_V k_288 k_289 k_290 k_2 k_291) rfl rfl rfl (by decide +kernel) ⟨Nat.le_of_ble_eq_true rfl, Nat.le_of_ble_eq_true rfl⟩) (fun U g mk a h => ⟨h.1, va_K.moved (u := U) (U := U.calling g mk a) (Vm.Alike.refl U.vm) h.2⟩) (va_recv hK hP (ci := 0) (q0 := 1) rfl rfl) (fun U hU hW => ⟨by rw [hU]; exact (hP.sub [1] rfl), va_K.moved hW.alike (hK.sub [] rfl)⟩) rfl hl.1 rfl (lv_room (Nat.le_of_ble_eq_true rfl)) d_C_show_32 ⟨Nat.zero_le _, Nat.zero_le _⟩ ?_
  refine wr_V (As := [.ref (Z (6 + j)), .int (nI (md x0 q0)), .int (nI (md y0 q0))]) (rest := []) (b := (Z 0)) ⟨hx, hb, hml, hown, hts⟩ (c_C_layOpen l dC dI Z cI cP p0 q0 g0 h0 S j (md x0 q0) (md y0 q0) t0 (by omega) hN (md_lt _ (by omega)) (md_lt _ (by omega)) hKp ht ht7 ok hC) (cwV 3 hts (al_V k_385 k_386 k_646 k_1 k_387) rfl rfl rfl (by decide +kernel) ⟨Nat.le_of_ble_eq_true rfl, Nat.le_of_ble_eq_true rfl⟩) (va_recv hK hP (ci := 2) (q0 := 0) rfl rfl) hP hK hD hS rfl hl.1 rfl (lv_room (Nat.le_of_ble_eq_true rfl)) d_C_show_35 ⟨Nat.zero_le _, Nat.zero_le _⟩ (fun H locs hP _ _ hS => ?_)
  have hD := w_addr hD (w_adC S (lyS p0 q0 g0 h0 t0 S j (md x0 q0) (md y0 q0)))
  exact wr_z hx hb hr hlk (by first | rfl | exact mz_bn _) hP hS d_C_show_38
set_option maxRecDepth 100000 in
set_option maxHeartbeats 4000000 in
/-- answer(i, u, v) where it is allowed -/
theorem c_C_answer (l : Launch) (dC : Nat → ClassId) (dI : Nat → Nat → Nat) (Z : Nat → Nat) (cI cP : ClassId) (p0 q0 g0 h0 : Nat) (S : Nat → Nat → Int32) (j n0 : Nat) (hn : S 0 1 = nI n0) (hn7 : n0 ≤ 7) (hj : j < n0) (t0 : Nat) (x0 y0 : Int32) (hst : S 0 0 = 4) (hcp : ¬ S 8 j = 0) (hN : S 4 j = nI (j + 1)) (ht : S 0 2 = nI t0) (ht7 : t0 ≤ 7) (ok : okG p0 q0 g0 h0) (hC : ∀ k, k < t0 → okN (S 3 k) p0) : Wr l y_C_answer ws_C_answer 5 116 [.ref (Z 0), .int (nI (j + 1)), .int x0, .int y0] (dC, dI) cls (tysC cI cP) (wC Z cI cP p0 q0 g0 h0 (S)) (wC Z cI cP p0 q0 g0 h0 (up (anS S j x0 y0 q0) 9 j (mz_b ((g0 ^ (nn ((anS S j x0 y0 q0) 5 j)) % p0) * (h0 ^ (nn ((anS S j x0 y0 q0) 6 j)) % p0) % p0 = mz_cp (fun k => nn ((anS S j x0 y0 q0) 3 k)) (j + 1) 0 t0 % p0)))) (some (.int (mz_b ((g0 ^ (nn ((anS S j x0 y0 q0) 5 j)) % p0) * (h0 ^ (nn ((anS S j x0 y0 q0) 6 j)) % p0) % p0 = mz_cp (fun k => nn ((anS S j x0 y0 q0) 3 k)) (j + 1) 0 t0 % p0)))) := by
  refine Met.ofW (cc := b_C_answer) (maxL := 5) (ret := (some .boolean)) (by decide) rfl ?_
  intro p e s m args below meth c s₁ B hml hv
  obtain ⟨rfl, hP, hK, hD0⟩ := hv
  have hx := B.exec
  have hb := B.bytes
  have hr := B.returns
  have hts : ∀ w ∈ AL, w.before ([.ref (Z 0), .int (nI (j + 1)), .int x0, .int y0] : List Value).toArray s = true := fun w h => atoms_spec (ws := ws_C_answer) B.pre w (List.mem_cons_of_mem _ h)
  have hown : s.vm.findClass "DealtSecret" = some m.cls := findClass_of_methodNamed B.named
  have hlk := B.notSynchronized
  have hl := lv_entry ([.ref (Z 0), .int (nI (j + 1)), .int x0, .int y0]) (n := 5) (Nat.le_of_ble_eq_true rfl)
  rw [lg_entry_eq]
  generalize (lg_sl ([.ref (Z 0), .int (nI (j + 1)), .int x0, .int y0]) ++ List.replicate (5 - (lg_sl ([.ref (Z 0), .int (nI (j + 1)), .int x0, .int y0])).length) Slot.unset).toArray = ls at hl ⊢
  have hl : lv_has ls 5 [(0, .ref (Z 0)), (1, .int (nI (j + 1))), (2, .int x0), (3, .int y0)] := hl
  have hD := w_self hD0
  have hS : va_S (w_A (wC Z cI cP p0 q0 g0 h0 (S))) s.heap s.heap [] := va_S.rf
  obtain ⟨okp2, okp, okq2, okq, okg, okh⟩ := id ok
  refine lv_aload_n hx hb d_C_answer_0 rfl (lv_at hl 0 rfl) ?_
  refine lv_iconst (v := 4) hx hb d_C_answer_1 (by decide) ?_
  refine rv_V (As := [.int 4]) (rest := []) (b := (Z 0)) ⟨hx, hb, hml, hown, hts⟩ (c_C_demandStage l dC dI Z cI cP p0 q0 g0 h0 S 4 hst) (cwV 1 hts (al_V k_269 k_270 k_637 k_1 k_271) rfl rfl rfl (by decide +kernel) ⟨Nat.le_of_ble_eq_true rfl, Nat.le_of_ble_eq_true rfl⟩) (fun U g mk a h => ⟨h.1, va_K.moved (u := U) (U := U.calling g mk a) (Vm.Alike.refl U.vm) h.2⟩) (va_recv hK hP (ci := 2) (q0 := 0) rfl rfl) (fun U hU hW => ⟨by rw [hU]; exact hP, va_K.moved hW.alike hK⟩) rfl hl.1 rfl (lv_room (Nat.le_of_ble_eq_true rfl)) d_C_answer_2 ⟨Nat.zero_le _, Nat.zero_le _⟩ ?_
  refine lv_aload_n hx hb d_C_answer_5 rfl (lv_at hl 0 rfl) ?_
  refine lv_iload_n hx hb d_C_answer_6 rfl (lv_at hl 1 rfl) ?_
  refine rv_V (As := [.int (nI (j + 1))]) (rest := []) (b := (Z 0)) ⟨hx, hb, hml, hown, hts⟩ (c_C_demandParticipant l dC dI Z cI cP p0 q0 g0 h0 S (nI (j + 1)) (by rw [hn]; exact isPt_of (by omega) hj)) (cwV 1 hts (al_V k_338 k_339 k_645 k_1 k_340) rfl rfl rfl (by decide +kernel) ⟨Nat.le_of_ble_eq_true rfl, Nat.le_of_ble_eq_true rfl⟩) (fun U g mk a h => ⟨h.1, va_K.moved (u := U) (U := U.calling g mk a) (Vm.Alike.refl U.vm) h.2⟩) (va_recv hK hP (ci := 2) (q0 := 0) rfl rfl) (fun U hU hW => ⟨by rw [hU]; exact hP, va_K.moved hW.alike hK⟩) rfl hl.1 rfl (lv_room (Nat.le_of_ble_eq_true rfl)) d_C_answer_7 ⟨Nat.zero_le _, Nat.zero_le _⟩ ?_
  refine lv_aload_n hx hb d_C_answer_10 rfl (lv_at hl 0 rfl) ?_
  refine va_get (D := (dC, dI)) (ci := 2) (v := .ref (Z 5)) (C := "DealtSecret") (T := T_C) (N := 11) hx hb hts i_C hown hK hP 0 rfl rfl 4 (by decide) (hts _ k_105) (fun _ h9 => h9) rfl d_C_answer_11 ?_
  refine lv_iload_n hx hb d_C_answer_14 rfl (lv_at hl 1 rfl) ?_
  refine lv_iconst (v := 1) hx hb d_C_answer_15 (by decide) ?_
  refine lv_isub hx hb d_C_answer_16 ?_
  refine x_i (y := nI j) (nI_pred j) ?_
  refine va_aldq hx hb hK hP 5 1 rfl rfl (vp_in_nI (by omega) (by decide)) d_C_answer_17 ?_
  refine x_v (y := .ref (Z (6 + j))) (by rw [nI_clamp (by omega)]; rfl) ?_
  refine lv_astore (lv' := [(4, .ref (Z (6 + j))), (0, .ref (Z 0)), (1, .int (nI (j + 1))), (2, .int x0), (3, .int y0)]) hx hb d_C_answer_18 hl (by decide) rfl (fun ls hl => ?_)
  refine lv_aload hx hb d_C_answer_20 (lv_at hl 0 rfl) ?_
  refine va_get (D := (dC, dI)) (ci := 1) (v := .int (S 8 j)) (C := "DealtSecret$Participant") (T := T_P) (N := 9) hx hb hts i_P hown hK hP (6 + j) (w_part (by omega)) rfl 4 (by decide) (hts _ k_73) (fun _ h9 => h9) rfl d_C_answer_22 ?_
  refine lv_if_ne (tgt := 38) hx hb d_C_answer_25 (by decide) (fun _ => ?_) (fun c_ => absurd c_ (hcp))
  refine lv_aload hx hb d_C_answer_38 (lv_at hl 0 rfl) ?_
  refine lv_aload_n hx hb d_C_answer_40 rfl (lv_at hl 1 rfl) ?_
  refine va_get (D := (dC, dI)) (ci := 2) (v := .ref (Z 1)) (C := "DealtSecret") (T := T_C) (N := 11) hx hb hts i_C hown hK hP 0 rfl rfl 0 (by decide) (hts _ k_101) (fun _ h9 => h9) rfl d_C_answer_41 ?_
  refine lv_iload_n hx hb d_C_answer_44 rfl (lv_at hl 3 rfl) ?_
  refine ro_V (As := [.int x0]) (rest := [.ref (Z (6 + j))]) (b := (Z 1)) ⟨hx, hb, hml, hown, hts⟩ (c_G_number l dC dI (Z 1) p0 q0 g0 h0 x0 (by omega) okq) (cwV 1 hts (al_V k_288 k_289 k_290 k_2 k_291) rfl rfl rfl (by decide +kernel) ⟨Nat.le_of_ble_eq_true rfl, Nat.le_of_ble_eq_true rfl⟩) (fun U g mk a h => ⟨h.1, va_K.moved (u := U) (U := U.calling g mk a) (Vm.Alike.refl U.vm) h.2⟩) (va_recv hK hP (ci := 0) (q0 := 1) rfl rfl) (fun U hU hW => ⟨by rw [hU]; exact (hP.sub [1] rfl), va_K.moved hW.alike (hK.sub [] rfl)⟩) rfl hl.1 rfl (lv_room (Nat.le_of_ble_eq_true rfl)) d_C_answer_45 ⟨Nat.zero_le _, Nat.zero_le _⟩ ?_
  refine lv_aload_n hx hb d_C_answer_48 rfl (lv_at hl 1 rfl) ?_
  refine lv_iload_n hx hb d_C_answer_49 rfl (lv_at hl 4 rfl) ?_
  refine ro_V (As := [.int y0]) (rest := [.int (nI (md x0 q0)), .ref (Z (6 + j))]) (b := (Z 0)) ⟨hx, hb, hml, hown, hts⟩ (c_C_blindNumber l dC dI Z cI cP p0 q0 g0 h0 S y0 ok) (cwV 1 hts (al_V k_295 k_296 k_639 k_1 k_297) rfl rfl rfl (by decide +kernel) ⟨Nat.le_of_ble_eq_true rfl, Nat.le_of_ble_eq_true rfl⟩) (fun U g mk a h => ⟨h.1, va_K.moved (u := U) (U := U.calling g mk a) (Vm.Alike.refl U.vm) h.2⟩) (va_recv hK hP (ci := 2) (q0 := 0) rfl rfl) (fun U hU hW => ⟨by rw [hU]; exact hP, va_K.moved hW.alike hK⟩) rfl hl.1 rfl (lv_room (Nat.le_of_ble_eq_true rfl)) d_C_answer_50 ⟨Nat.zero_le _, Nat.zero_le _⟩ ?_
  refine wr_V (As := [.int (nI (md x0 q0)), .int (bnum (S 0 3) y0 q0)]) (rest := []) (b := (Z (6 + j))) ⟨hx, hb, hml, hown, hts⟩ (c_P_receive l dC dI Z cI cP p0 q0 g0 h0 S j (by omega) (nI (md x0 q0)) (bnum (S 0 3) y0 q0)) (cwV 2 hts (al_V k_321 k_322 k_323 k_3 k_324) rfl rfl rfl (by decide +kernel) ⟨Nat.le_of_ble_eq_true rfl, Nat.le_of_ble_eq_true rfl⟩) (va_recv hK hP (ci := 1) (q0 := (6 + j)) rfl (w_part (by omega))) hP hK hD hS rfl hl.1 rfl (lv_room (Nat.le_of_ble_eq_true rfl)) d_C_answer_53 ⟨Nat.zero_le _, Nat.zero_le _⟩ (fun H locs hP _ _ hS => ?_)
  have hD := w_addr hD (w_adC S (anS S j x0 y0 q0))
  refine lv_aload hx hb d_C_answer_56 (lv_at hl 0 rfl) ?_
  refine lv_aload_n hx hb d_C_answer_58 rfl (lv_at hl 1 rfl) ?_
  refine lv_aload hx hb d_C_answer_59 (lv_at hl 0 rfl) ?_
  refine ro_V (As := [.ref (Z (6 + j))]) (rest := [.ref (Z (6 + j))]) (b := (Z 0)) ⟨hx, hb, hml, hown, hts⟩ (c_C_isShareRight l dC dI Z cI cP p0 q0 g0 h0 (anS S j x0 y0 q0) j t0 (by omega) hN (show okN ((anS S j x0 y0 q0) 5 j) q0 by unfold anS; rw [rcv, up_ne _ _ _ (by decide), up_at]; exact okN_md x0 (by omega) okq) (show okN ((anS S j x0 y0 q0) 6 j) q0 by unfold anS; rw [rcv, up_at]; exact okN_bnum _ _ (by omega) okq) ht ht7 ok hC) (cwV 1 hts (al_V k_163 k_164 k_633 k_1 k_165) rfl rfl rfl (by decide +kernel) ⟨Nat.le_of_ble_eq_true rfl, Nat.le_of_ble_eq_true rfl⟩) (fun U g mk a h => ⟨h.1, va_K.moved (u := U) (U := U.calling g mk a) (Vm.Alike.refl U.vm) h.2⟩) (va_recv hK hP (ci := 2) (q0 := 0) rfl rfl) (fun U hU hW => ⟨by rw [hU]; exact hP, va_K.moved hW.alike hK⟩) rfl hl.1 rfl (lv_room (Nat.le_of_ble_eq_true rfl)) d_C_answer_61 ⟨Nat.zero_le _, Nat.zero_le _⟩ ?_
  refine va_put (D := (dC, dI)) (ci := 1) (v := .int (mz_b ((g0 ^ (nn ((anS S j x0 y0 q0) 5 j)) % p0) * (h0 ^ (nn ((anS S j x0 y0 q0) 6 j)) % p0) % p0 = mz_cp (fun k => nn ((anS S j x0 y0 q0) 3 k)) (j + 1) 0 t0 % p0))) (ty := .boolean) (C := "DealtSecret$Participant") (T := T_P) (N := 9) hx hb hts i_P t_P t_P_ok n_P hown hK hP hD hS (6 + j) (w_part (by omega)) rfl 5 (by decide) (hts _ k_75) (fun _ h9 => h9) rfl (by decide +kernel) (mz_bn _) (mz_bfit _) (Nat.le_of_ble_eq_true rfl) d_C_answer_64 (fun H locs hP hD hS => ?_)
  have hP : va_P (dC, dI) cls (wC Z cI cP p0 q0 g0 h0 (up (anS S j x0 y0 q0) 9 j (mz_b ((g0 ^ (nn ((anS S j x0 y0 q0) 5 j)) % p0) * (h0 ^ (nn ((anS S j x0 y0 q0) 6 j)) % p0) % p0 = mz_cp (fun k => nn ((anS S j x0 y0 q0) 3 k)) (j + 1) 0 t0 % p0)))) H := by rw [← w_pt5 (by omega)]; exact hP
  have hD : va_D (w_A (wC Z cI cP p0 q0 g0 h0 (S))) (wC Z cI cP p0 q0 g0 h0 (up (anS S j x0 y0 q0) 9 j (mz_b ((g0 ^ (nn ((anS S j x0 y0 q0) 5 j)) % p0) * (h0 ^ (nn ((anS S j x0 y0 q0) 6 j)) % p0) % p0 = mz_cp (fun k => nn ((anS S j x0 y0 q0) 3 k)) (j + 1) 0 t0 % p0)))) := by rw [← w_pt5 (by omega)]; exact hD
  refine lv_aload hx hb d_C_answer_67 (lv_at hl 0 rfl) ?_
  refine va_get (D := (dC, dI)) (ci := 1) (v := .int ((up (anS S j x0 y0 q0) 9 j (mz_b ((g0 ^ (nn ((anS S j x0 y0 q0) 5 j)) % p0) * (h0 ^ (nn ((anS S j x0 y0 q0) 6 j)) % p0) % p0 = mz_cp (fun k => nn ((anS S j x0 y0 q0) 3 k)) (j + 1) 0 t0 % p0))) 9 j)) (C := "DealtSecret$Participant") (T := T_P) (N := 9) hx hb hts i_P hown hK hP (6 + j) (w_part (by omega)) rfl 5 (by decide) (hts _ k_75) (fun _ h9 => h9) rfl d_C_answer_69 ?_
  refine x_i (y := mz_b ((g0 ^ (nn ((anS S j x0 y0 q0) 5 j)) % p0) * (h0 ^ (nn ((anS S j x0 y0 q0) 6 j)) % p0) % p0 = mz_cp (fun k => nn ((anS S j x0 y0 q0) 3 k)) (j + 1) 0 t0 % p0)) (up_at _ _ _ _) ?_
  exact wr_z hx hb hr hlk (by first | rfl | exact mz_bn _) hP hS d_C_answer_72
end
section
set_option maxRecDepth 100000 in
set_option maxHeartbeats 4000000 in
/-- relation() where it is allowed -/
theorem c_C_relation (l : Launch) (dC : Nat → ClassId) (dI : Nat → Nat → Nat) (Z : Nat → Nat) (cI cP : ClassId) (p0 q0 g0 h0 : Nat) (S : Nat → Nat → Int32) (hst : S 0 0 = 5) (hrl : ¬ S 0 4 = 0) : Ro l y_C_relation ws_C_relation 1 21 [.ref (Z 0)] (bC dC dI Z cI cP p0 q0 g0 h0 S) (S 0 5) := by
  refine Met.ofW (cc := b_C_relation) (maxL := 1) (ret := (some .int)) (by decide) rfl ?_
  intro p e s m args below meth c s₁ B hml hv
  obtain ⟨rfl, hP, hK⟩ := hv
  have hx := B.exec
  have hb := B.bytes
  have hr := B.returns
  have hts : ∀ w ∈ AL, w.before ([.ref (Z 0)] : List Value).toArray s = true := fun w h => atoms_spec (ws := ws_C_relation) B.pre w (List.mem_cons_of_mem _ h)
  have hown : s.vm.findClass "DealtSecret" = some m.cls := findClass_of_methodNamed B.named
  have hlk := B.notSynchronized
  have hl := lv_entry ([.ref (Z 0)]) (n := 1) (Nat.le_of_ble_eq_true rfl)
  rw [lg_entry_eq]
  generalize (lg_sl ([.ref (Z 0)]) ++ List.replicate (1 - (lg_sl ([.ref (Z 0)])).length) Slot.unset).toArray = ls at hl ⊢
  have hl : lv_has ls 1 [(0, .ref (Z 0))] := hl
  refine lv_aload_n hx hb d_C_relation_0 rfl (lv_at hl 0 rfl) ?_
  refine lv_iconst (v := 5) hx hb d_C_relation_1 (by decide) ?_
  refine rv_V (As := [.int 5]) (rest := []) (b := (Z 0)) ⟨hx, hb, hml, hown, hts⟩ (c_C_demandStage l dC dI Z cI cP p0 q0 g0 h0 S 5 hst) (cwV 1 hts (al_V k_269 k_270 k_637 k_1 k_271) rfl rfl rfl (by decide +kernel) ⟨Nat.le_of_ble_eq_true rfl, Nat.le_of_ble_eq_true rfl⟩) (fun U g mk a h => ⟨h.1, va_K.moved (u := U) (U := U.calling g mk a) (Vm.Alike.refl U.vm) h.2⟩) (va_recv hK hP (ci := 2) (q0 := 0) rfl rfl) (fun U hU hW => ⟨by rw [hU]; exact hP, va_K.moved hW.alike hK⟩) rfl hl.1 rfl (lv_room (Nat.le_of_ble_eq_true rfl)) d_C_relation_2 ⟨Nat.zero_le _, Nat.zero_le _⟩ ?_
  refine lv_aload_n hx hb d_C_relation_5 rfl (lv_at hl 0 rfl) ?_
  refine va_get (D := (dC, dI)) (ci := 2) (v := .int (S 0 4)) (C := "DealtSecret") (T := T_C) (N := 11) hx hb hts i_C hown hK hP 0 rfl rfl 9 (by decide) (hts _ k_110) (fun _ h9 => h9) rfl d_C_relation_6 ?_
  refine lv_if_ne (tgt := 22) hx hb d_C_relation_9 (by decide) (fun _ => ?_) (fun c_ => absurd c_ (hrl))
  refine lv_aload_n hx hb d_C_relation_22 rfl (lv_at hl 0 rfl) ?_
  refine va_get (D := (dC, dI)) (ci := 2) (v := .int (S 0 5)) (C := "DealtSecret") (T := T_C) (N := 11) hx hb hts i_C hown hK hP 0 rfl rfl 10 (by decide) (hts _ k_111) (fun _ h9 => h9) rfl d_C_relation_23 ?_
  exact ro_i hx hb hr hlk d_C_relation_26 (rfl)
set_option maxRecDepth 100000 in
set_option maxHeartbeats 4000000 in
/-- commitment(k) -/
theorem c_C_commitment (l : Launch) (dC : Nat → ClassId) (dI : Nat → Nat → Nat) (Z : Nat → Nat) (cI cP : ClassId) (p0 q0 g0 h0 : Nat) (S : Nat → Nat → Int32) (k1 : Int32) (t0 : Nat) (ht : S 0 2 = nI t0) (ht7 : t0 ≤ 7) : Ro l y_C_commitment ws_C_commitment 1 21 [.ref (Z 0), .int k1] (bC dC dI Z cI cP p0 q0 g0 h0 S) (cmC S k1) := by
  refine Met.ofW (cc := b_C_commitment) (maxL := 2) (ret := (some .int)) (by decide) rfl ?_
  intro p e s m args below meth c s₁ B hml hv
  obtain ⟨rfl, hP, hK⟩ := hv
  have hx := B.exec
  have hb := B.bytes
  have hr := B.returns
  have hts : ∀ w ∈ AL, w.before ([.ref (Z 0), .int k1] : List Value).toArray s = true := fun w h => atoms_spec (ws := ws_C_commitment) B.pre w (List.mem_cons_of_mem _ h)
  have hown : s.vm.findClass "DealtSecret" = some m.cls := findClass_of_methodNamed B.named
  have hlk := B.notSynchronized
  have hl := lv_entry ([.ref (Z 0), .int k1]) (n := 2) (Nat.le_of_ble_eq_true rfl)
  rw [lg_entry_eq]
  generalize (lg_sl ([.ref (Z 0), .int k1]) ++ List.replicate (2 - (lg_sl ([.ref (Z 0), .int k1])).length) Slot.unset).toArray = ls at hl ⊢
  have hl : lv_has ls 2 [(0, .ref (Z 0)), (1, .int k1)] := hl
  refine lv_aload_n hx hb d_C_commitment_0 rfl (lv_at hl 0 rfl) ?_
  refine ro_V (As := []) (rest := []) (b := (Z 0)) ⟨hx, hb, hml, hown, hts⟩ (c_C_isDealt l dC dI Z cI cP p0 q0 g0 h0 S) (cwV 0 hts (al_V k_146 k_147 k_630 k_1 k_148) rfl rfl rfl (by decide +kernel) ⟨Nat.le_of_ble_eq_true rfl, Nat.le_of_ble_eq_true rfl⟩) (fun U g mk a h => ⟨h.1, va_K.moved (u := U) (U := U.calling g mk a) (Vm.Alike.refl U.vm) h.2⟩) (va_recv hK hP (ci := 2) (q0 := 0) rfl rfl) (fun U hU hW => ⟨by rw [hU]; exact hP, va_K.moved hW.alike hK⟩) rfl hl.1 rfl (lv_room (Nat.le_of_ble_eq_true rfl)) d_C_commitment_1 ⟨Nat.zero_le _, Nat.zero_le _⟩ ?_
  refine lv_if_eq (tgt := 24) hx hb d_C_commitment_4 (by decide) (fun c4 => ?_) (fun c4 => ?_)
  · have h1 := mz_b0.mp c4
    refine lv_iconst (v := 0) hx hb d_C_commitment_24 (by decide) ?_
    exact ro_i hx hb hr hlk d_C_commitment_25 ((if_neg (by first | exact fun q => h1 q.1 | exact fun q => h2 q.2)).symm)
  · have h1 : ¬ S 0 0 < 2 := Classical.not_not.mp (fun z => c4 (mz_bf z))
    refine lv_aload_n hx hb d_C_commitment_7 rfl (lv_at hl 0 rfl) ?_
    refine lv_iload_n hx hb d_C_commitment_8 rfl (lv_at hl 1 rfl) ?_
    refine ro_V (As := [.int k1]) (rest := []) (b := (Z 0)) ⟨hx, hb, hml, hown, hts⟩ (c_C_isCoefficient l dC dI Z cI cP p0 q0 g0 h0 S k1) (cwV 1 hts (al_V k_149 k_150 k_631 k_1 k_151) rfl rfl rfl (by decide +kernel) ⟨Nat.le_of_ble_eq_true rfl, Nat.le_of_ble_eq_true rfl⟩) (fun U g mk a h => ⟨h.1, va_K.moved (u := U) (U := U.calling g mk a) (Vm.Alike.refl U.vm) h.2⟩) (va_recv hK hP (ci := 2) (q0 := 0) rfl rfl) (fun U hU hW => ⟨by rw [hU]; exact hP, va_K.moved hW.alike hK⟩) rfl hl.1 rfl (lv_room (Nat.le_of_ble_eq_true rfl)) d_C_commitment_9 ⟨Nat.zero_le _, Nat.zero_le _⟩ ?_
    refine lv_if_eq (tgt := 24) hx hb d_C_commitment_12 (by decide) (fun c12 => ?_) (fun c12 => ?_)
    · have h2 := mz_b0.mp c12
      refine lv_iconst (v := 0) hx hb d_C_commitment_24 (by decide) ?_
      exact ro_i hx hb hr hlk d_C_commitment_25 ((if_neg (by first | exact fun q => h1 q.1 | exact fun q => h2 q.2)).symm)
    · have h2 : isCf (S 0 2) k1 := Classical.not_not.mp (fun z => c12 (mz_bf z))
      obtain ⟨k0, hk0, rfl⟩ := isCf_nat (by rw [ht] at h2; exact h2) (by omega)
      refine lv_aload_n hx hb d_C_commitment_15 rfl (lv_at hl 0 rfl) ?_
      refine va_get (D := (dC, dI)) (ci := 2) (v := .ref (Z 4)) (C := "DealtSecret") (T := T_C) (N := 11) hx hb hts i_C hown hK hP 0 rfl rfl 3 (by decide) (hts _ k_104) (fun _ h9 => h9) rfl d_C_commitment_16 ?_
      refine lv_iload_n hx hb d_C_commitment_19 rfl (lv_at hl 1 rfl) ?_
      refine va_iald hx hb hK hP 4 0 rfl rfl (vp_in_nI (by omega) (by decide)) d_C_commitment_20 ?_
      refine x_i (y := S 3 k0) (by rw [nI_clamp (by omega)]) ?_
      refine lv_goto (tgt := 25) hx hb d_C_commitment_21 (by decide) ?_
      exact ro_i hx hb hr hlk d_C_commitment_25 (((if_pos ⟨h1, h2⟩).trans (by rw [nn_nI (by omega)])).symm)
end
section
/-- what share(i, what), fits(i), group(what) tell -/
noncomputable def shC (S : Nat → Nat → Int32) (i w : Int32) : Int32 := @ite _ (¬ S 0 0 < 2 ∧ isPt (S 0 1) i) (Classical.propDecidable _) (if w = 0 then S 5 (nn i - 1) else if w = 1 then S 6 (nn i - 1) else -1) (-1)
def grC (p0 q0 g0 h0 : Nat) (w : Int32) : Int32 := if w = 0 then nI p0 else if w = 1 then nI q0 else if w = 2 then nI g0 else if w = 3 then nI h0 else 0
def allA (S : Nat → Nat → Int32) (n0 : Nat) : Prop := ∀ i, i < n0 → S 8 i = 0 ∨ ¬ S 9 i = 0
set_option maxRecDepth 100000 in
set_option maxHeartbeats 4000000 in
/-- share(i, what) -/
theorem c_C_share (l : Launch) (dC : Nat → ClassId) (dI : Nat → Nat → Nat) (Z : Nat → Nat) (cI cP : ClassId) (p0 q0 g0 h0 : Nat) (S : Nat → Nat → Int32) (i1 w1 : Int32) (n0 : Nat) (hn : S 0 1 = nI n0) (hn7 : n0 ≤ 7) : Ro l y_C_share ws_C_share 1 21 [.ref (Z 0), .int i1, .int w1] (bC dC dI Z cI cP p0 q0 g0 h0 S) (shC S i1 w1) := by
  refine Met.ofW (cc := b_C_share) (maxL := 3) (ret := (some .int)) (by decide) rfl ?_
  intro p e s m args below meth c s₁ B hml hv
  obtain ⟨rfl, hP, hK⟩ := hv
  have hx := B.exec
  have hb := B.bytes
  have hr := B.returns
  have hts : ∀ w ∈ AL, w.before ([.ref (Z 0), .int i1, .int w1] : List Value).toArray s = true := fun w h => atoms_spec (ws := ws_C_share) B.pre w (List.mem_cons_of_mem _ h)
  have hown : s.vm.findClass "DealtSecret" = some m.cls := findClass_of_methodNamed B.named
  have hlk := B.notSynchronized
  have hl := lv_entry ([.ref (Z 0), .int i1, .int w1]) (n := 3) (Nat.le_of_ble_eq_true rfl)
  rw [lg_entry_eq]
  generalize (lg_sl ([.ref (Z 0), .int i1, .int w1]) ++ List.replicate (3 - (lg_sl ([.ref (Z 0), .int i1, .int w1])).length) Slot.unset).toArray = ls at hl ⊢
  have hl : lv_has ls 3 [(0, .ref (Z 0)), (1, .int i1), (2, .int w1)] := hl
  refine lv_aload_n hx hb d_C_share_0 rfl (lv_at hl 0 rfl) ?_
  refine ro_V (As := []) (rest := []) (b := (Z 0)) ⟨hx, hb, hml, hown, hts⟩ (c_C_isDealt l dC dI Z cI cP p0 q0 g0 h0 S) (cwV 0 hts (al_V k_146 k_147 k_630 k_1 k_148) rfl rfl rfl (by decide +kernel) ⟨Nat.le_of_ble_eq_true rfl, Nat.le_of_ble_eq_true rfl⟩) (fun U g mk a h => ⟨h.1, va_K.moved (u := U) (U := U.calling g mk a) (Vm.Alike.refl U.vm) h.2⟩) (va_recv hK hP (ci := 2) (q0 := 0) rfl rfl) (fun U hU hW => ⟨by rw [hU]; exact hP, va_K.moved hW.alike hK⟩) rfl hl.1 rfl (lv_room (Nat.le_of_ble_eq_true rfl)) d_C_share_1 ⟨Nat.zero_le _, Nat.zero_le _⟩ ?_
  refine lv_if_eq (tgt := 15) hx hb d_C_share_4 (by decide) (fun c4 => ?_) (fun c4 => ?_)
  · have h1 := mz_b0.mp c4
    refine lv_iconst (v := (-1)) hx hb d_C_share_15 (by decide) ?_
    exact ro_i hx hb hr hlk d_C_share_16 ((if_neg (by first | exact fun q => h1 q.1 | exact fun q => h2 q.2)).symm)
  · have h1 : ¬ S 0 0 < 2 := Classical.not_not.mp (fun z => c4 (mz_bf z))
    refine lv_aload_n hx hb d_C_share_7 rfl (lv_at hl 0 rfl) ?_
    refine lv_iload_n hx hb d_C_share_8 rfl (lv_at hl 1 rfl) ?_
    refine ro_V (As := [.int i1]) (rest := []) (b := (Z 0)) ⟨hx, hb, hml, hown, hts⟩ (c_C_isParticipant l dC dI Z cI cP p0 q0 g0 h0 S i1) (cwV 1 hts (al_V k_156 k_157 k_632 k_1 k_158) rfl rfl rfl (by decide +kernel) ⟨Nat.le_of_ble_eq_true rfl, Nat.le_of_ble_eq_true rfl⟩) (fun U g mk a h => ⟨h.1, va_K.moved (u := U) (U := U.calling g mk a) (Vm.Alike.refl U.vm) h.2⟩) (va_recv hK hP (ci := 2) (q0 := 0) rfl rfl) (fun U hU hW => ⟨by rw [hU]; exact hP, va_K.moved hW.alike hK⟩) rfl hl.1 rfl (lv_room (Nat.le_of_ble_eq_true rfl)) d_C_share_9 ⟨Nat.zero_le _, Nat.zero_le _⟩ ?_
    refine lv_if_ne (tgt := 17) hx hb d_C_share_12 (by decide) (fun c12 => ?_) (fun c12 => ?_)
    · have h2 : isPt (S 0 1) i1 := Classical.not_not.mp (fun z => c12 (mz_bf z))
      obtain ⟨j, hj, rfl⟩ := isPt_nat (by rw [hn] at h2; exact h2) (by omega)
      refine lv_iload_n hx hb d_C_share_17 rfl (lv_at hl 2 rfl) ?_
      by_cases c0 : w1 = 0
      · refine lv_lookup (tgt := 44) hx hb d_C_share_18 (by decide) (by rw [c0]) (by decide) ?_
        refine lv_aload_n hx hb d_C_share_44 rfl (lv_at hl 0 rfl) ?_
        refine va_get (D := (dC, dI)) (ci := 2) (v := .ref (Z 5)) (C := "DealtSecret") (T := T_C) (N := 11) hx hb hts i_C hown hK hP 0 rfl rfl 4 (by decide) (hts _ k_105) (fun _ h9 => h9) rfl d_C_share_45 ?_
        refine lv_iload_n hx hb d_C_share_48 rfl (lv_at hl 1 rfl) ?_
        refine lv_iconst (v := 1) hx hb d_C_share_49 (by decide) ?_
        refine lv_isub hx hb d_C_share_50 ?_
        refine x_i (y := nI j) (nI_pred j) ?_
        refine va_aldq hx hb hK hP 5 1 rfl rfl (vp_in_nI (by omega) (by decide)) d_C_share_51 ?_
        refine x_v (y := .ref (Z (6 + j))) (by rw [nI_clamp (by omega)]; rfl) ?_
        refine va_get (D := (dC, dI)) (ci := 1) (v := .int (S 5 j)) (C := "DealtSecret$Participant") (T := T_P) (N := 9) hx hb hts i_P hown hK hP (6 + j) (w_part (by omega)) rfl 1 (by decide) (hts _ k_67) (fun _ h9 => h9) rfl d_C_share_52 ?_
        exact ro_i hx hb hr hlk d_C_share_55 ((((if_pos ⟨h1, h2⟩).trans (if_pos c0)).trans (by rw [nn_nI (by omega), Nat.add_sub_cancel])).symm)
      by_cases c1 : w1 = 1
      · refine lv_lookup (tgt := 56) hx hb d_C_share_18 (by decide) (by rw [c1]) (by decide) ?_
        refine lv_aload_n hx hb d_C_share_56 rfl (lv_at hl 0 rfl) ?_
        refine va_get (D := (dC, dI)) (ci := 2) (v := .ref (Z 5)) (C := "DealtSecret") (T := T_C) (N := 11) hx hb hts i_C hown hK hP 0 rfl rfl 4 (by decide) (hts _ k_105) (fun _ h9 => h9) rfl d_C_share_57 ?_
        refine lv_iload_n hx hb d_C_share_60 rfl (lv_at hl 1 rfl) ?_
        refine lv_iconst (v := 1) hx hb d_C_share_61 (by decide) ?_
        refine lv_isub hx hb d_C_share_62 ?_
        refine x_i (y := nI j) (nI_pred j) ?_
        refine va_aldq hx hb hK hP 5 1 rfl rfl (vp_in_nI (by omega) (by decide)) d_C_share_63 ?_
        refine x_v (y := .ref (Z (6 + j))) (by rw [nI_clamp (by omega)]; rfl) ?_
        refine va_get (D := (dC, dI)) (ci := 1) (v := .int (S 6 j)) (C := "DealtSecret$Participant") (T := T_P) (N := 9) hx hb hts i_P hown hK hP (6 + j) (w_part (by omega)) rfl 2 (by decide) (hts _ k_69) (fun _ h9 => h9) rfl d_C_share_64 ?_
        exact ro_i hx hb hr hlk d_C_share_67 ((((if_pos ⟨h1, h2⟩).trans ((if_neg c0).trans (if_pos c1))).trans (by rw [nn_nI (by omega), Nat.add_sub_cancel])).symm)
      refine lv_lookup (tgt := 68) (off := 50) hx hb d_C_share_18 (by decide) (by show Op.lookupswitch.offset [(0, 26), (1, 38)] 50 w1.toInt = 50; rw [lv_osw c0 (by decide), lv_osw c1 (by decide)]; rfl) (by decide) ?_
      refine lv_iconst (v := (-1)) hx hb d_C_share_68 (by decide) ?_
      exact ro_i hx hb hr hlk d_C_share_69 (((if_pos ⟨h1, h2⟩).trans ((if_neg c0).trans (if_neg c1))).symm)
    · have h2 := mz_b0.mp c12
      refine lv_iconst (v := (-1)) hx hb d_C_share_15 (by decide) ?_
      exact ro_i hx hb hr hlk d_C_share_16 ((if_neg (by first | exact fun q => h1 q.1 | exact fun q => h2 q.2)).symm)
set_option maxRecDepth 100000 in
set_option maxHeartbeats 4000000 in
/-- fits(i) of a participant -/
theorem c_C_fits (l : Launch) (dC : Nat → ClassId) (dI : Nat → Nat → Nat) (Z : Nat → Nat) (cI cP : ClassId) (p0 q0 g0 h0 : Nat) (S : Nat → Nat → Int32) (j n0 t0 : Nat) (hn : S 0 1 = nI n0) (hn7 : n0 ≤ 7) (hj : j < n0) (hd : ¬ S 0 0 < 2) (hu : okN (S 5 j) q0) (hv : okN (S 6 j) q0) (hN : S 4 j = nI (j + 1)) (ht : S 0 2 = nI t0) (ht7 : t0 ≤ 7) (ok : okG p0 q0 g0 h0) (hC : ∀ k, k < t0 → okN (S 3 k) p0) : Ro l y_C_fits ws_C_fits 5 116 [.ref (Z 0), .int (nI (j + 1))] (bC dC dI Z cI cP p0 q0 g0 h0 S) (mz_b ((g0 ^ (nn (S 5 j)) % p0) * (h0 ^ (nn (S 6 j)) % p0) % p0 = mz_cp (fun k => nn (S 3 k)) (j + 1) 0 t0 % p0)) := by
  refine Met.ofW (cc := b_C_fits) (maxL := 2) (ret := (some .boolean)) (by decide) rfl ?_
  intro p e s m args below meth c s₁ B hml hv
  obtain ⟨rfl, hP, hK⟩ := hv
  have hx := B.exec
  have hb := B.bytes
  have hr := B.returns
  have hts : ∀ w ∈ AL, w.before ([.ref (Z 0), .int (nI (j + 1))] : List Value).toArray s = true := fun w h => atoms_spec (ws := ws_C_fits) B.pre w (List.mem_cons_of_mem _ h)
  have hown : s.vm.findClass "DealtSecret" = some m.cls := findClass_of_methodNamed B.named
  have hlk := B.notSynchronized
  have hl := lv_entry ([.ref (Z 0), .int (nI (j + 1))]) (n := 2) (Nat.le_of_ble_eq_true rfl)
  rw [lg_entry_eq]
  generalize (lg_sl ([.ref (Z 0), .int (nI (j + 1))]) ++ List.replicate (2 - (lg_sl ([.ref (Z 0), .int (nI (j + 1))])).length) Slot.unset).toArray = ls at hl ⊢
  have hl : lv_has ls 2 [(0, .ref (Z 0)), (1, .int (nI (j + 1)))] := hl
  obtain ⟨okp2, okp, okq2, okq, okg, okh⟩ := id ok
  refine lv_aload_n hx hb d_C_fits_0 rfl (lv_at hl 0 rfl) ?_
  refine ro_V (As := []) (rest := []) (b := (Z 0)) ⟨hx, hb, hml, hown, hts⟩ (c_C_isDealt l dC dI Z cI cP p0 q0 g0 h0 S) (cwV 0 hts (al_V k_146 k_147 k_630 k_1 k_148) rfl rfl rfl (by decide +kernel) ⟨Nat.le_of_ble_eq_true rfl, Nat.le_of_ble_eq_true rfl⟩) (fun U g mk a h => ⟨h.1, va_K.moved (u := U) (U := U.calling g mk a) (Vm.Alike.refl U.vm) h.2⟩) (va_recv hK hP (ci := 2) (q0 := 0) rfl rfl) (fun U hU hW => ⟨by rw [hU]; exact hP, va_K.moved hW.alike hK⟩) rfl hl.1 rfl (lv_room (Nat.le_of_ble_eq_true rfl)) d_C_fits_1 ⟨Nat.zero_le _, Nat.zero_le _⟩ ?_
  refine lv_if_eq (tgt := 34) hx hb d_C_fits_4 (by decide) (fun c_ => absurd c_ (fun q => mz_b0.mp q hd)) (fun _ => ?_)
  refine lv_aload_n hx hb d_C_fits_7 rfl (lv_at hl 0 rfl) ?_
  refine lv_iload_n hx hb d_C_fits_8 rfl (lv_at hl 1 rfl) ?_
  refine ro_V (As := [.int (nI (j + 1))]) (rest := []) (b := (Z 0)) ⟨hx, hb, hml, hown, hts⟩ (c_C_isParticipant l dC dI Z cI cP p0 q0 g0 h0 S (nI (j + 1))) (cwV 1 hts (al_V k_156 k_157 k_632 k_1 k_158) rfl rfl rfl (by decide +kernel) ⟨Nat.le_of_ble_eq_true rfl, Nat.le_of_ble_eq_true rfl⟩) (fun U g mk a h => ⟨h.1, va_K.moved (u := U) (U := U.calling g mk a) (Vm.Alike.refl U.vm) h.2⟩) (va_recv hK hP (ci := 2) (q0 := 0) rfl rfl) (fun U hU hW => ⟨by rw [hU]; exact hP, va_K.moved hW.alike hK⟩) rfl hl.1 rfl (lv_room (Nat.le_of_ble_eq_true rfl)) d_C_fits_9 ⟨Nat.zero_le _, Nat.zero_le _⟩ ?_
  refine lv_if_eq (tgt := 34) hx hb d_C_fits_12 (by decide) (fun c_ => absurd c_ (fun q => mz_b0.mp q (by rw [hn]; exact isPt_of (by omega) hj))) (fun _ => ?_)
  refine lv_aload_n hx hb d_C_fits_15 rfl (lv_at hl 0 rfl) ?_
  refine lv_aload_n hx hb d_C_fits_16 rfl (lv_at hl 0 rfl) ?_
  refine va_get (D := (dC, dI)) (ci := 2) (v := .ref (Z 5)) (C := "DealtSecret") (T := T_C) (N := 11) hx hb hts i_C hown hK hP 0 rfl rfl 4 (by decide) (hts _ k_105) (fun _ h9 => h9) rfl d_C_fits_17 ?_
  refine lv_iload_n hx hb d_C_fits_20 rfl (lv_at hl 1 rfl) ?_
  refine lv_iconst (v := 1) hx hb d_C_fits_21 (by decide) ?_
  refine lv_isub hx hb d_C_fits_22 ?_
  refine x_i (y := nI j) (nI_pred j) ?_
  refine va_aldq hx hb hK hP 5 1 rfl rfl (vp_in_nI (by omega) (by decide)) d_C_fits_23 ?_
  refine x_v (y := .ref (Z (6 + j))) (by rw [nI_clamp (by omega)]; rfl) ?_
  refine ro_V (As := [.ref (Z (6 + j))]) (rest := []) (b := (Z 0)) ⟨hx, hb, hml, hown, hts⟩ (c_C_isShareRight l dC dI Z cI cP p0 q0 g0 h0 S j t0 (by omega) hN hu hv ht ht7 ok hC) (cwV 1 hts (al_V k_163 k_164 k_633 k_1 k_165) rfl rfl rfl (by decide +kernel) ⟨Nat.le_of_ble_eq_true rfl, Nat.le_of_ble_eq_true rfl⟩) (fun U g mk a h => ⟨h.1, va_K.moved (u := U) (U := U.calling g mk a) (Vm.Alike.refl U.vm) h.2⟩) (va_recv hK hP (ci := 2) (q0 := 0) rfl rfl) (fun U hU hW => ⟨by rw [hU]; exact hP, va_K.moved hW.alike hK⟩) rfl hl.1 rfl (lv_room (Nat.le_of_ble_eq_true rfl)) d_C_fits_24 ⟨Nat.zero_le _, Nat.zero_le _⟩ ?_
  refine lv_if_eq (tgt := 34) hx hb d_C_fits_27 (by decide) (fun c27 => ?_) (fun c27 => ?_)
  · refine lv_iconst (v := 0) hx hb d_C_fits_34 (by decide) ?_
    refine x_i (y := mz_b ((g0 ^ (nn (S 5 j)) % p0) * (h0 ^ (nn (S 6 j)) % p0) % p0 = mz_cp (fun k => nn (S 3 k)) (j + 1) 0 t0 % p0)) (c27.symm) ?_
    exact ro_z hx hb hr hlk d_C_fits_35 (by first | rfl | exact mz_bn _) (rfl)
  · refine lv_iconst (v := 1) hx hb d_C_fits_30 (by decide) ?_
    refine x_i (y := mz_b ((g0 ^ (nn (S 5 j)) % p0) * (h0 ^ (nn (S 6 j)) % p0) % p0 = mz_cp (fun k => nn (S 3 k)) (j + 1) 0 t0 % p0)) ((mz_bt (Classical.not_not.mp (fun z => c27 (mz_bf z)))).symm) ?_
    refine lv_goto (tgt := 35) hx hb d_C_fits_31 (by decide) ?_
    exact ro_z hx hb hr hlk d_C_fits_35 (by first | rfl | exact mz_bn _) (rfl)
set_option maxRecDepth 100000 in
set_option maxHeartbeats 4000000 in
/-- fits(i) where there is nothing to fit -/
theorem c_C_fits_no (l : Launch) (dC : Nat → ClassId) (dI : Nat → Nat → Nat) (Z : Nat → Nat) (cI cP : ClassId) (p0 q0 g0 h0 : Nat) (S : Nat → Nat → Int32) (i1 : Int32) (hd : S 0 0 < 2 ∨ ¬ isPt (S 0 1) i1) : Ro l y_C_fits ws_C_fits 5 116 [.ref (Z 0), .int i1] (bC dC dI Z cI cP p0 q0 g0 h0 S) (0) := by
  refine Met.ofW (cc := b_C_fits) (maxL := 2) (ret := (some .boolean)) (by decide) rfl ?_
  intro p e s m args below meth c s₁ B hml hv
  obtain ⟨rfl, hP, hK⟩ := hv
  have hx := B.exec
  have hb := B.bytes
  have hr := B.returns
  have hts : ∀ w ∈ AL, w.before ([.ref (Z 0), .int i1] : List Value).toArray s = true := fun w h => atoms_spec (ws := ws_C_fits) B.pre w (List.mem_cons_of_mem _ h)
  have hown : s.vm.findClass "DealtSecret" = some m.cls := findClass_of_methodNamed B.named
  have hlk := B.notSynchronized
  have hl := lv_entry ([.ref (Z 0), .int i1]) (n := 2) (Nat.le_of_ble_eq_true rfl)
  rw [lg_entry_eq]
  generalize (lg_sl ([.ref (Z 0), .int i1]) ++ List.replicate (2 - (lg_sl ([.ref (Z 0), .int i1])).length) Slot.unset).toArray = ls at hl ⊢
  have hl : lv_has ls 2 [(0, .ref (Z 0)), (1, .int i1)] := hl
  refine lv_aload_n hx hb d_C_fits_0 rfl (lv_at hl 0 rfl) ?_
  refine ro_V (As := []) (rest := []) (b := (Z 0)) ⟨hx, hb, hml, hown, hts⟩ (c_C_isDealt l dC dI Z cI cP p0 q0 g0 h0 S) (cwV 0 hts (al_V k_146 k_147 k_630 k_1 k_148) rfl rfl rfl (by decide +kernel) ⟨Nat.le_of_ble_eq_true rfl, Nat.le_of_ble_eq_true rfl⟩) (fun U g mk a h => ⟨h.1, va_K.moved (u := U) (U := U.calling g mk a) (Vm.Alike.refl U.vm) h.2⟩) (va_recv hK hP (ci := 2) (q0 := 0) rfl rfl) (fun U hU hW => ⟨by rw [hU]; exact hP, va_K.moved hW.alike hK⟩) rfl hl.1 rfl (lv_room (Nat.le_of_ble_eq_true rfl)) d_C_fits_1 ⟨Nat.zero_le _, Nat.zero_le _⟩ ?_
  refine lv_if_eq (tgt := 34) hx hb d_C_fits_4 (by decide) (fun c4 => ?_) (fun c4 => ?_)
  · refine lv_iconst (v := 0) hx hb d_C_fits_34 (by decide) ?_
    exact ro_z hx hb hr hlk d_C_fits_35 (by first | rfl | exact mz_bn _) (rfl)
  · have h1 : ¬ S 0 0 < 2 := Classical.not_not.mp (fun z => c4 (mz_bf z))
    refine lv_aload_n hx hb d_C_fits_7 rfl (lv_at hl 0 rfl) ?_
    refine lv_iload_n hx hb d_C_fits_8 rfl (lv_at hl 1 rfl) ?_
    refine ro_V (As := [.int i1]) (rest := []) (b := (Z 0)) ⟨hx, hb, hml, hown, hts⟩ (c_C_isParticipant l dC dI Z cI cP p0 q0 g0 h0 S i1) (cwV 1 hts (al_V k_156 k_157 k_632 k_1 k_158) rfl rfl rfl (by decide +kernel) ⟨Nat.le_of_ble_eq_true rfl, Nat.le_of_ble_eq_true rfl⟩) (fun U g mk a h => ⟨h.1, va_K.moved (u := U) (U := U.calling g mk a) (Vm.Alike.refl U.vm) h.2⟩) (va_recv hK hP (ci := 2) (q0 := 0) rfl rfl) (fun U hU hW => ⟨by rw [hU]; exact hP, va_K.moved hW.alike hK⟩) rfl hl.1 rfl (lv_room (Nat.le_of_ble_eq_true rfl)) d_C_fits_9 ⟨Nat.zero_le _, Nat.zero_le _⟩ ?_
    refine lv_if_eq (tgt := 34) hx hb d_C_fits_12 (by decide) (fun _ => ?_) (fun c_ => absurd (mz_bf (hd.resolve_left h1)) c_)
    refine lv_iconst (v := 0) hx hb d_C_fits_34 (by decide) ?_
    exact ro_z hx hb hr hlk d_C_fits_35 (by first | rfl | exact mz_bn _) (rfl)
set_option maxRecDepth 100000 in
set_option maxHeartbeats 4000000 in
/-- group(what) -/
theorem c_C_group (l : Launch) (dC : Nat → ClassId) (dI : Nat → Nat → Nat) (Z : Nat → Nat) (cI cP : ClassId) (p0 q0 g0 h0 : Nat) (S : Nat → Nat → Int32) (w1 : Int32) : Ro l y_C_group ws_C_group 0 0 [.ref (Z 0), .int w1] (bC dC dI Z cI cP p0 q0 g0 h0 S) (grC p0 q0 g0 h0 w1) := by
  refine Met.ofW (cc := b_C_group) (maxL := 2) (ret := (some .int)) (by decide) rfl ?_
  intro p e s m args below meth c s₁ B hml hv
  obtain ⟨rfl, hP, hK⟩ := hv
  have hx := B.exec
  have hb := B.bytes
  have hr := B.returns
  have hts : ∀ w ∈ AL, w.before ([.ref (Z 0), .int w1] : List Value).toArray s = true := fun w h => atoms_spec (ws := ws_C_group) B.pre w (List.mem_cons_of_mem _ h)
  have hown : s.vm.findClass "DealtSecret" = some m.cls := findClass_of_methodNamed B.named
  have hlk := B.notSynchronized
  have hl := lv_entry ([.ref (Z 0), .int w1]) (n := 2) (Nat.le_of_ble_eq_true rfl)
  rw [lg_entry_eq]
  generalize (lg_sl ([.ref (Z 0), .int w1]) ++ List.replicate (2 - (lg_sl ([.ref (Z 0), .int w1])).length) Slot.unset).toArray = ls at hl ⊢
  have hl : lv_has ls 2 [(0, .ref (Z 0)), (1, .int w1)] := hl
  refine lv_iload_n hx hb d_C_group_0 rfl (lv_at hl 1 rfl) ?_
  by_cases c0 : w1 = 0
  · refine lv_tableIn (tgt := 32) hx hb d_C_group_1 (by rw [c0]; decide) (by rw [c0]; decide) (by rw [c0]; rfl) (by decide) ?_
    refine lv_aload_n hx hb d_C_group_32 rfl (lv_at hl 0 rfl) ?_
    refine va_get (D := (dC, dI)) (ci := 2) (v := .ref (Z 1)) (C := "DealtSecret") (T := T_C) (N := 11) hx hb hts i_C hown hK hP 0 rfl rfl 0 (by decide) (hts _ k_101) (fun _ h9 => h9) rfl d_C_group_33 ?_
    refine va_get (D := (dC, dI)) (ci := 0) (v := .int (nI p0)) (C := "DealtSecret$Group") (T := T_G) (N := 4) hx hb hts i_G hown hK hP 1 rfl rfl 0 (by decide) (hts _ k_43) (fun _ h9 => h9) rfl d_C_group_36 ?_
    exact ro_i hx hb hr hlk d_C_group_39 (((if_pos c0)).symm)
  by_cases c1 : w1 = 1
  · refine lv_tableIn (tgt := 40) hx hb d_C_group_1 (by rw [c1]; decide) (by rw [c1]; decide) (by rw [c1]; rfl) (by decide) ?_
    refine lv_aload_n hx hb d_C_group_40 rfl (lv_at hl 0 rfl) ?_
    refine va_get (D := (dC, dI)) (ci := 2) (v := .ref (Z 1)) (C := "DealtSecret") (T := T_C) (N := 11) hx hb hts i_C hown hK hP 0 rfl rfl 0 (by decide) (hts _ k_101) (fun _ h9 => h9) rfl d_C_group_41 ?_
    refine va_get (D := (dC, dI)) (ci := 0) (v := .int (nI q0)) (C := "DealtSecret$Group") (T := T_G) (N := 4) hx hb hts i_G hown hK hP 1 rfl rfl 1 (by decide) (hts _ k_45) (fun _ h9 => h9) rfl d_C_group_44 ?_
    exact ro_i hx hb hr hlk d_C_group_47 ((((if_neg c0).trans (if_pos c1))).symm)
  by_cases c2 : w1 = 2
  · refine lv_tableIn (tgt := 48) hx hb d_C_group_1 (by rw [c2]; decide) (by rw [c2]; decide) (by rw [c2]; rfl) (by decide) ?_
    refine lv_aload_n hx hb d_C_group_48 rfl (lv_at hl 0 rfl) ?_
    refine va_get (D := (dC, dI)) (ci := 2) (v := .ref (Z 1)) (C := "DealtSecret") (T := T_C) (N := 11) hx hb hts i_C hown hK hP 0 rfl rfl 0 (by decide) (hts _ k_101) (fun _ h9 => h9) rfl d_C_group_49 ?_
    refine va_get (D := (dC, dI)) (ci := 0) (v := .int (nI g0)) (C := "DealtSecret$Group") (T := T_G) (N := 4) hx hb hts i_G hown hK hP 1 rfl rfl 2 (by decide) (hts _ k_47) (fun _ h9 => h9) rfl d_C_group_52 ?_
    exact ro_i hx hb hr hlk d_C_group_55 ((((if_neg c0).trans ((if_neg c1).trans (if_pos c2)))).symm)
  by_cases c3 : w1 = 3
  · refine lv_tableIn (tgt := 56) hx hb d_C_group_1 (by rw [c3]; decide) (by rw [c3]; decide) (by rw [c3]; rfl) (by decide) ?_
    refine lv_aload_n hx hb d_C_group_56 rfl (lv_at hl 0 rfl) ?_
    refine va_get (D := (dC, dI)) (ci := 2) (v := .ref (Z 1)) (C := "DealtSecret") (T := T_C) (N := 11) hx hb hts i_C hown hK hP 0 rfl rfl 0 (by decide) (hts _ k_101) (fun _ h9 => h9) rfl d_C_group_57 ?_
    refine va_get (D := (dC, dI)) (ci := 0) (v := .int (nI h0)) (C := "DealtSecret$Group") (T := T_G) (N := 4) hx hb hts i_G hown hK hP 1 rfl rfl 3 (by decide) (hts _ k_49) (fun _ h9 => h9) rfl d_C_group_60 ?_
    exact ro_i hx hb hr hlk d_C_group_63 ((((if_neg c0).trans ((if_neg c1).trans ((if_neg c2).trans (if_pos c3))))).symm)
  have n0 := lv_neT c0 (a := 0) (by decide)
  have n1 := lv_neT c1 (a := 1) (by decide)
  have n2 := lv_neT c2 (a := 2) (by decide)
  have n3 := lv_neT c3 (a := 3) (by decide)
  refine lv_tableOut (tgt := 64) hx hb d_C_group_1 (by omega) (by decide) ?_
  refine lv_iconst (v := 0) hx hb d_C_group_64 (by decide) ?_
  exact ro_i hx hb hr hlk d_C_group_65 ((((if_neg c0).trans ((if_neg c1).trans ((if_neg c2).trans (if_neg c3))))).symm)
set_option maxRecDepth 100000 in
set_option maxHeartbeats 4000000 in
/-- isEveryComplaintAnswered() -/
theorem c_C_isEveryComplaintAnswered (l : Launch) (dC : Nat → ClassId) (dI : Nat → Nat → Nat) (Z : Nat → Nat) (cI cP : ClassId) (p0 q0 g0 h0 : Nat) (S : Nat → Nat → Int32) (n0 : Nat) (hn : S 0 1 = nI n0) (hn7 : n0 ≤ 7) : Ro l y_C_isEveryComplaintAnswered ws_C_isEveryComplaintAnswered 0 0 [.ref (Z 0)] (bC dC dI Z cI cP p0 q0 g0 h0 S) (mz_b (allA S n0)) := by
  refine Met.ofW (cc := b_C_isEveryComplaintAnswered) (maxL := 2) (ret := (some .boolean)) (by decide) rfl ?_
  intro p e s m args below meth c s₁ B hml hv
  obtain ⟨rfl, hP, hK⟩ := hv
  have hx := B.exec
  have hb := B.bytes
  have hr := B.returns
  have hts : ∀ w ∈ AL, w.before ([.ref (Z 0)] : List Value).toArray s = true := fun w h => atoms_spec (ws := ws_C_isEveryComplaintAnswered) B.pre w (List.mem_cons_of_mem _ h)
  have hown : s.vm.findClass "DealtSecret" = some m.cls := findClass_of_methodNamed B.named
  have hlk := B.notSynchronized
  have hl := lv_entry ([.ref (Z 0)]) (n := 2) (Nat.le_of_ble_eq_true rfl)
  rw [lg_entry_eq]
  generalize (lg_sl ([.ref (Z 0)]) ++ List.replicate (2 - (lg_sl ([.ref (Z 0)])).length) Slot.unset).toArray = ls at hl ⊢
  have hl : lv_has ls 2 [(0, .ref (Z 0))] := hl
  have loop : ∀ (n j : Nat) (ls : Array Slot), n0 + 1 ≤ j + n → j ≤ n0 → (∀ i, i < j → S 8 i = 0 ∨ ¬ S 9 i = 0) → lv_has ls 2 [(0, .ref (Z 0)), (1, .int (nI j))] → W p l e (headSpec ws_C_isEveryComplaintAnswered { frames := 0, cells := 0, slots := 0, locals := 0 }).room s m [.ref (Z 0)].toArray below meth c s.heap [] 0 0 (MQ below (QcRead (mz_b (allA S n0))) [.ref (Z 0)].toArray s 0 0 (fun _ => False)) (F0 m 2 ls []) := by
    intro n
    induction n with
    | zero =>
      intro j ls h1 h2
      omega
    | succ n ih =>
      intro j ls h1 h2 hI hl
      refine lv_iload_n hx hb d_C_isEveryComplaintAnswered_2 rfl (lv_at hl 1 rfl) ?_
      refine lv_aload_n hx hb d_C_isEveryComplaintAnswered_3 rfl (lv_at hl 0 rfl) ?_
      refine va_get (D := (dC, dI)) (ci := 2) (v := .int (S 0 1)) (C := "DealtSecret") (T := T_C) (N := 11) hx hb hts i_C hown hK hP 0 rfl rfl 6 (by decide) (hts _ k_107) (fun _ h9 => h9) rfl d_C_isEveryComplaintAnswered_4 ?_
      refine x_i (y := nI n0) (hn) ?_
      refine lv_icmp_ge (tgt := 42) hx hb d_C_isEveryComplaintAnswered_7 (by decide) (fun c7 => ?_) (fun c7 => ?_)
      · have hk : j = n0 := by
          rcases Nat.lt_or_ge j n0 with q | q
          · exact absurd c7 (nI_ge q (by omega))
          · omega
        subst hk
        refine lv_iconst (v := 1) hx hb d_C_isEveryComplaintAnswered_42 (by decide) ?_
        exact ro_z hx hb hr hlk d_C_isEveryComplaintAnswered_43 (by first | rfl | exact mz_bn _) ((mz_bt hI).symm)
      · have hk : j < n0 := by
          rcases Nat.lt_or_ge j n0 with q | q
          · exact q
          · exact absurd (nI_le q (by omega)) c7
        refine lv_aload_n hx hb d_C_isEveryComplaintAnswered_10 rfl (lv_at hl 0 rfl) ?_
        refine va_get (D := (dC, dI)) (ci := 2) (v := .ref (Z 5)) (C := "DealtSecret") (T := T_C) (N := 11) hx hb hts i_C hown hK hP 0 rfl rfl 4 (by decide) (hts _ k_105) (fun _ h9 => h9) rfl d_C_isEveryComplaintAnswered_11 ?_
        refine lv_iload_n hx hb d_C_isEveryComplaintAnswered_14 rfl (lv_at hl 1 rfl) ?_
        refine va_aldq hx hb hK hP 5 1 rfl rfl (vp_in_nI (by omega) (by decide)) d_C_isEveryComplaintAnswered_15 ?_
        refine x_v (y := .ref (Z (6 + j))) (by rw [nI_clamp (by omega)]; rfl) ?_
        refine va_get (D := (dC, dI)) (ci := 1) (v := .int (S 8 j)) (C := "DealtSecret$Participant") (T := T_P) (N := 9) hx hb hts i_P hown hK hP (6 + j) (w_part (by omega)) rfl 4 (by decide) (hts _ k_73) (fun _ h9 => h9) rfl d_C_isEveryComplaintAnswered_16 ?_
        refine lv_if_eq (tgt := 36) hx hb d_C_isEveryComplaintAnswered_19 (by decide) (fun c19 => ?_) (fun c19 => ?_)
        · refine lv_iinc (v := (nI (j + 1))) (lv' := [(1, .int (nI (j + 1))), (0, .ref (Z 0))]) hx hb d_C_isEveryComplaintAnswered_36 hl (k := 1) rfl (nI_1 j) (by decide) rfl (fun ls hl => ?_)
          refine lv_goto (tgt := 2) hx hb d_C_isEveryComplaintAnswered_39 (by decide) ?_
          exact ih (j + 1) ls (by omega) (by omega) (fun i hi => by
            rcases (show i < j ∨ i = j by omega) with q | rfl
            · exact hI i q
            · first | exact Or.inl c19 | exact Or.inr c31) (lv_sub hl [1, 0] rfl)
        · refine lv_aload_n hx hb d_C_isEveryComplaintAnswered_22 rfl (lv_at hl 0 rfl) ?_
          refine va_get (D := (dC, dI)) (ci := 2) (v := .ref (Z 5)) (C := "DealtSecret") (T := T_C) (N := 11) hx hb hts i_C hown hK hP 0 rfl rfl 4 (by decide) (hts _ k_105) (fun _ h9 => h9) rfl d_C_isEveryComplaintAnswered_23 ?_
          refine lv_iload_n hx hb d_C_isEveryComplaintAnswered_26 rfl (lv_at hl 1 rfl) ?_
          refine va_aldq hx hb hK hP 5 1 rfl rfl (vp_in_nI (by omega) (by decide)) d_C_isEveryComplaintAnswered_27 ?_
          refine x_v (y := .ref (Z (6 + j))) (by rw [nI_clamp (by omega)]; rfl) ?_
          refine va_get (D := (dC, dI)) (ci := 1) (v := .int (S 9 j)) (C := "DealtSecret$Participant") (T := T_P) (N := 9) hx hb hts i_P hown hK hP (6 + j) (w_part (by omega)) rfl 5 (by decide) (hts _ k_75) (fun _ h9 => h9) rfl d_C_isEveryComplaintAnswered_28 ?_
          refine lv_if_ne (tgt := 36) hx hb d_C_isEveryComplaintAnswered_31 (by decide) (fun c31 => ?_) (fun c31 => ?_)
          · refine lv_iinc (v := (nI (j + 1))) (lv' := [(1, .int (nI (j + 1))), (0, .ref (Z 0))]) hx hb d_C_isEveryComplaintAnswered_36 hl (k := 1) rfl (nI_1 j) (by decide) rfl (fun ls hl => ?_)
            refine lv_goto (tgt := 2) hx hb d_C_isEveryComplaintAnswered_39 (by decide) ?_
            exact ih (j + 1) ls (by omega) (by omega) (fun i hi => by
              rcases (show i < j ∨ i = j by omega) with q | rfl
              · exact hI i q
              · first | exact Or.inl c19 | exact Or.inr c31) (lv_sub hl [1, 0] rfl)
          · refine lv_iconst (v := 0) hx hb d_C_isEveryComplaintAnswered_34 (by decide) ?_
            exact ro_z hx hb hr hlk d_C_isEveryComplaintAnswered_35 (by first | rfl | exact mz_bn _) ((mz_bf (fun q => (q j hk).elim c19 (fun z => z c31))).symm)
  refine lv_iconst (v := (nI 0)) hx hb d_C_isEveryComplaintAnswered_0 (by decide) ?_
  refine lv_istore_n (lv' := [(1, .int (nI 0)), (0, .ref (Z 0))]) hx hb d_C_isEveryComplaintAnswered_1 rfl hl (by decide) rfl (fun ls hl => ?_)
  exact loop (n0 + 1) 0 ls (by omega) (by omega) (fun i hi => absurd hi (Nat.not_lt_zero i)) (lv_sub hl [1, 0] rfl)
end
section
theorem mz_ct_le (f : Nat → Int32) : ∀ n : Nat, mz_ct f n ≤ n
  | 0 => Nat.le_refl 0
  | n + 1 => by
    have h := mz_ct_le f n
    rw [mz_ct]
    by_cases c : f n = 0
    · rw [if_pos c]; omega
    · rw [if_neg c]; omega
noncomputable def st5 (S : Nat → Nat → Int32) (n0 : Nat) : Int32 := @ite _ (allA S n0) (Classical.propDecidable _) 5 6
set_option maxRecDepth 100000 in
set_option maxHeartbeats 4000000 in
/-- advance() of a deal that is prepared -/
theorem c_C_advance1 (l : Launch) (dC : Nat → ClassId) (dI : Nat → Nat → Nat) (Z : Nat → Nat) (cI cP : ClassId) (p0 q0 g0 h0 : Nat) (S : Nat → Nat → Int32) (n0 t0 : Nat) (hst : S 0 0 = 1) (hn : S 0 1 = nI n0) (hn7 : n0 ≤ 7) (ht : S 0 2 = nI t0) (ht7 : t0 ≤ 7) (ok : okG p0 q0 g0 h0) (hA : ∀ k, k < t0 → okN (S 1 k) q0) (hB : ∀ k, k < t0 → okN (S 2 k) q0) : Wr l y_C_advance ws_C_advance 6 138 [.ref (Z 0)] (dC, dI) cls (tysC cI cP) (wC Z cI cP p0 q0 g0 h0 (S)) (wC Z cI cP p0 q0 g0 h0 (up (sndS q0 t0 (pubC p0 g0 h0 S t0) n0) 0 0 2)) (some (.int 2)) := by
  refine Met.ofW (cc := b_C_advance) (maxL := 1) (ret := (some .int)) (by decide) rfl ?_
  intro p e s m args below meth c s₁ B hml hv
  obtain ⟨rfl, hP, hK, hD0⟩ := hv
  have hx := B.exec
  have hb := B.bytes
  have hr := B.returns
  have hts : ∀ w ∈ AL, w.before ([.ref (Z 0)] : List Value).toArray s = true := fun w h => atoms_spec (ws := ws_C_advance) B.pre w (List.mem_cons_of_mem _ h)
  have hown : s.vm.findClass "DealtSecret" = some m.cls := findClass_of_methodNamed B.named
  have hlk := B.notSynchronized
  have hl := lv_entry ([.ref (Z 0)]) (n := 1) (Nat.le_of_ble_eq_true rfl)
  rw [lg_entry_eq]
  generalize (lg_sl ([.ref (Z 0)]) ++ List.replicate (1 - (lg_sl ([.ref (Z 0)])).length) Slot.unset).toArray = ls at hl ⊢
  have hl : lv_has ls 1 [(0, .ref (Z 0))] := hl
  have hD := w_self hD0
  have hS : va_S (w_A (wC Z cI cP p0 q0 g0 h0 (S))) s.heap s.heap [] := va_S.rf
  refine lv_aload_n hx hb d_C_advance_0 rfl (lv_at hl 0 rfl) ?_
  refine va_get (D := (dC, dI)) (ci := 2) (v := .int (S 0 0)) (C := "DealtSecret") (T := T_C) (N := 11) hx hb hts i_C hown hK hP 0 rfl rfl 5 (by decide) (hts _ k_106) (fun _ h9 => h9) rfl d_C_advance_1 ?_
  refine x_i (y := 1) (hst) ?_
  refine lv_tableIn (tgt := 36) hx hb d_C_advance_4 (by decide) (by decide) rfl (by decide) ?_
  refine lv_aload_n hx hb d_C_advance_36 rfl (lv_at hl 0 rfl) ?_
  refine wr_V (As := []) (rest := []) (b := (Z 0)) ⟨hx, hb, hml, hown, hts⟩ (c_C_publishCommitments l dC dI Z cI cP p0 q0 g0 h0 S t0 ht ht7 ok hA hB) (cwV 0 hts (al_V k_304 k_305 k_640 k_1 k_306) rfl rfl rfl (by decide +kernel) ⟨Nat.le_of_ble_eq_true rfl, Nat.le_of_ble_eq_true rfl⟩) (va_recv hK hP (ci := 2) (q0 := 0) rfl rfl) hP hK hD hS rfl hl.1 rfl (lv_room (Nat.le_of_ble_eq_true rfl)) d_C_advance_37 ⟨Nat.zero_le _, Nat.zero_le _⟩ (fun H locs hP _ _ hS => ?_)
  have hD := w_addr hD (w_adC S (pubC p0 g0 h0 S t0))
  refine lv_aload_n hx hb d_C_advance_40 rfl (lv_at hl 0 rfl) ?_
  refine wr_V (As := []) (rest := []) (b := (Z 0)) ⟨hx, hb, hml, hown, hts⟩ (c_C_sendShares l dC dI Z cI cP p0 q0 g0 h0 (pubC p0 g0 h0 S t0) n0 t0 (by rw [pubC_ne p0 g0 h0 S (by decide) t0]; exact hn) hn7 (by rw [pubC_ne p0 g0 h0 S (by decide) t0]; exact ht) ht7 ok (by rw [pubC_ne p0 g0 h0 S (by decide) t0]; exact hA) (by rw [pubC_ne p0 g0 h0 S (by decide) t0]; exact hB)) (cwV 0 hts (al_V k_307 k_308 k_641 k_1 k_309) rfl rfl rfl (by decide +kernel) ⟨Nat.le_of_ble_eq_true rfl, Nat.le_of_ble_eq_true rfl⟩) (va_recv hK hP (ci := 2) (q0 := 0) rfl rfl) hP hK hD hS rfl hl.1 rfl (lv_room (Nat.le_of_ble_eq_true rfl)) d_C_advance_41 ⟨Nat.zero_le _, Nat.zero_le _⟩ (fun H locs hP _ _ hS => ?_)
  have hD := w_addr hD (w_adC (pubC p0 g0 h0 S t0) (sndS q0 t0 (pubC p0 g0 h0 S t0) n0))
  refine lv_aload_n hx hb d_C_advance_44 rfl (lv_at hl 0 rfl) ?_
  refine lv_iconst (v := 2) hx hb d_C_advance_45 (by decide) ?_
  refine va_put (D := (dC, dI)) (ci := 2) (v := .int 2) (ty := .int) (C := "DealtSecret") (T := T_C) (N := 11) hx hb hts i_C t_C t_C_ok n_C hown hK hP hD hS 0 rfl rfl 5 (by decide) (hts _ k_106) (fun _ h9 => h9) rfl (by decide +kernel) (rfl) (rfl) (Nat.le_of_ble_eq_true rfl) d_C_advance_46 (fun H locs hP hD hS => ?_)
  have hP : va_P (dC, dI) cls (wC Z cI cP p0 q0 g0 h0 (up (sndS q0 t0 (pubC p0 g0 h0 S t0) n0) 0 0 2)) H := hP
  have hD : va_D (w_A (wC Z cI cP p0 q0 g0 h0 (S))) (wC Z cI cP p0 q0 g0 h0 (up (sndS q0 t0 (pubC p0 g0 h0 S t0) n0) 0 0 2)) := hD
  refine lv_goto (tgt := 118) hx hb d_C_advance_49 (by decide) ?_
  refine lv_aload_n hx hb d_C_advance_118 rfl (lv_at hl 0 rfl) ?_
  refine va_get (D := (dC, dI)) (ci := 2) (v := .int ((up (sndS q0 t0 (pubC p0 g0 h0 S t0) n0) 0 0 2) 0 0)) (C := "DealtSecret") (T := T_C) (N := 11) hx hb hts i_C hown hK hP 0 rfl rfl 5 (by decide) (hts _ k_106) (fun _ h9 => h9) rfl d_C_advance_119 ?_
  refine x_i (y := 2) (up_at _ _ _ _) ?_
  exact wr_i hx hb hr hlk hP hS d_C_advance_122
set_option maxRecDepth 100000 in
set_option maxHeartbeats 4000000 in
/-- advance() of a deal whose shares are sent -/
theorem c_C_advance2 (l : Launch) (dC : Nat → ClassId) (dI : Nat → Nat → Nat) (Z : Nat → Nat) (cI cP : ClassId) (p0 q0 g0 h0 : Nat) (S : Nat → Nat → Int32) (n0 t0 : Nat) (hst : S 0 0 = 2) (hn : S 0 1 = nI n0) (hn7 : n0 ≤ 7) (hN : ∀ j, j < 7 → S 4 j = nI (j + 1)) (hU : ∀ j, j < n0 → okN (S 5 j) q0) (hV : ∀ j, j < n0 → okN (S 6 j) q0) (ht : S 0 2 = nI t0) (ht7 : t0 ≤ 7) (ok : okG p0 q0 g0 h0) (hC : ∀ k, k < t0 → okN (S 3 k) p0) : Wr l y_C_advance ws_C_advance 6 138 [.ref (Z 0)] (dC, dI) cls (tysC cI cP) (wC Z cI cP p0 q0 g0 h0 (S)) (wC Z cI cP p0 q0 g0 h0 (up (raiC p0 g0 h0 t0 S n0) 0 0 3)) (some (.int 3)) := by
  refine Met.ofW (cc := b_C_advance) (maxL := 1) (ret := (some .int)) (by decide) rfl ?_
  intro p e s m args below meth c s₁ B hml hv
  obtain ⟨rfl, hP, hK, hD0⟩ := hv
  have hx := B.exec
  have hb := B.bytes
  have hr := B.returns
  have hts : ∀ w ∈ AL, w.before ([.ref (Z 0)] : List Value).toArray s = true := fun w h => atoms_spec (ws := ws_C_advance) B.pre w (List.mem_cons_of_mem _ h)
  have hown : s.vm.findClass "DealtSecret" = some m.cls := findClass_of_methodNamed B.named
  have hlk := B.notSynchronized
  have hl := lv_entry ([.ref (Z 0)]) (n := 1) (Nat.le_of_ble_eq_true rfl)
  rw [lg_entry_eq]
  generalize (lg_sl ([.ref (Z 0)]) ++ List.replicate (1 - (lg_sl ([.ref (Z 0)])).length) Slot.unset).toArray = ls at hl ⊢
  have hl : lv_has ls 1 [(0, .ref (Z 0))] := hl
  have hD := w_self hD0
  have hS : va_S (w_A (wC Z cI cP p0 q0 g0 h0 (S))) s.heap s.heap [] := va_S.rf
  refine lv_aload_n hx hb d_C_advance_0 rfl (lv_at hl 0 rfl) ?_
  refine va_get (D := (dC, dI)) (ci := 2) (v := .int (S 0 0)) (C := "DealtSecret") (T := T_C) (N := 11) hx hb hts i_C hown hK hP 0 rfl rfl 5 (by decide) (hts _ k_106) (fun _ h9 => h9) rfl d_C_advance_1 ?_
  refine x_i (y := 2) (hst) ?_
  refine lv_tableIn (tgt := 52) hx hb d_C_advance_4 (by decide) (by decide) rfl (by decide) ?_
  refine lv_aload_n hx hb d_C_advance_52 rfl (lv_at hl 0 rfl) ?_
  refine wr_V (As := []) (rest := []) (b := (Z 0)) ⟨hx, hb, hml, hown, hts⟩ (c_C_raiseComplaints l dC dI Z cI cP p0 q0 g0 h0 S n0 t0 hn hn7 hN hU hV ht ht7 ok hC) (cwV 0 hts (al_V k_325 k_326 k_643 k_1 k_327) rfl rfl rfl (by decide +kernel) ⟨Nat.le_of_ble_eq_true rfl, Nat.le_of_ble_eq_true rfl⟩) (va_recv hK hP (ci := 2) (q0 := 0) rfl rfl) hP hK hD hS rfl hl.1 rfl (lv_room (Nat.le_of_ble_eq_true rfl)) d_C_advance_53 ⟨Nat.zero_le _, Nat.zero_le _⟩ (fun H locs hP _ _ hS => ?_)
  have hD := w_addr hD (w_adC S (raiC p0 g0 h0 t0 S n0))
  refine lv_aload_n hx hb d_C_advance_56 rfl (lv_at hl 0 rfl) ?_
  refine lv_iconst (v := 3) hx hb d_C_advance_57 (by decide) ?_
  refine va_put (D := (dC, dI)) (ci := 2) (v := .int 3) (ty := .int) (C := "DealtSecret") (T := T_C) (N := 11) hx hb hts i_C t_C t_C_ok n_C hown hK hP hD hS 0 rfl rfl 5 (by decide) (hts _ k_106) (fun _ h9 => h9) rfl (by decide +kernel) (rfl) (rfl) (Nat.le_of_ble_eq_true rfl) d_C_advance_58 (fun H locs hP hD hS => ?_)
  have hP : va_P (dC, dI) cls (wC Z cI cP p0 q0 g0 h0 (up (raiC p0 g0 h0 t0 S n0) 0 0 3)) H := hP
  have hD : va_D (w_A (wC Z cI cP p0 q0 g0 h0 (S))) (wC Z cI cP p0 q0 g0 h0 (up (raiC p0 g0 h0 t0 S n0) 0 0 3)) := hD
  refine lv_goto (tgt := 118) hx hb d_C_advance_61 (by decide) ?_
  refine lv_aload_n hx hb d_C_advance_118 rfl (lv_at hl 0 rfl) ?_
  refine va_get (D := (dC, dI)) (ci := 2) (v := .int ((up (raiC p0 g0 h0 t0 S n0) 0 0 3) 0 0)) (C := "DealtSecret") (T := T_C) (N := 11) hx hb hts i_C hown hK hP 0 rfl rfl 5 (by decide) (hts _ k_106) (fun _ h9 => h9) rfl d_C_advance_119 ?_
  refine x_i (y := 3) (up_at _ _ _ _) ?_
  exact wr_i hx hb hr hlk hP hS d_C_advance_122
set_option maxRecDepth 100000 in
set_option maxHeartbeats 4000000 in
/-- advance() of a deal with complaints -/
theorem c_C_advance3 (l : Launch) (dC : Nat → ClassId) (dI : Nat → Nat → Nat) (Z : Nat → Nat) (cI cP : ClassId) (p0 q0 g0 h0 : Nat) (S : Nat → Nat → Int32) (n0 t0 : Nat) (hst : S 0 0 = 3) (hn : S 0 1 = nI n0) (hn7 : n0 ≤ 7) (ht : S 0 2 = nI t0) (ht7 : t0 ≤ 7) : Wr l y_C_advance ws_C_advance 6 138 [.ref (Z 0)] (dC, dI) cls (tysC cI cP) (wC Z cI cP p0 q0 g0 h0 (S)) (wC Z cI cP p0 q0 g0 h0 (up S 0 0 (if t0 ≤ mz_ct (S 8) n0 then 6 else 4))) (some (.int (if t0 ≤ mz_ct (S 8) n0 then 6 else 4))) := by
  refine Met.ofW (cc := b_C_advance) (maxL := 1) (ret := (some .int)) (by decide) rfl ?_
  intro p e s m args below meth c s₁ B hml hv
  obtain ⟨rfl, hP, hK, hD0⟩ := hv
  have hx := B.exec
  have hb := B.bytes
  have hr := B.returns
  have hts : ∀ w ∈ AL, w.before ([.ref (Z 0)] : List Value).toArray s = true := fun w h => atoms_spec (ws := ws_C_advance) B.pre w (List.mem_cons_of_mem _ h)
  have hown : s.vm.findClass "DealtSecret" = some m.cls := findClass_of_methodNamed B.named
  have hlk := B.notSynchronized
  have hl := lv_entry ([.ref (Z 0)]) (n := 1) (Nat.le_of_ble_eq_true rfl)
  rw [lg_entry_eq]
  generalize (lg_sl ([.ref (Z 0)]) ++ List.replicate (1 - (lg_sl ([.ref (Z 0)])).length) Slot.unset).toArray = ls at hl ⊢
  have hl : lv_has ls 1 [(0, .ref (Z 0))] := hl
  have hD := w_self hD0
  have hS : va_S (w_A (wC Z cI cP p0 q0 g0 h0 (S))) s.heap s.heap [] := va_S.rf
  have hct := mz_ct_le (S 8) n0
  refine lv_aload_n hx hb d_C_advance_0 rfl (lv_at hl 0 rfl) ?_
  refine va_get (D := (dC, dI)) (ci := 2) (v := .int (S 0 0)) (C := "DealtSecret") (T := T_C) (N := 11) hx hb hts i_C hown hK hP 0 rfl rfl 5 (by decide) (hts _ k_106) (fun _ h9 => h9) rfl d_C_advance_1 ?_
  refine x_i (y := 3) (hst) ?_
  refine lv_tableIn (tgt := 64) hx hb d_C_advance_4 (by decide) (by decide) rfl (by decide) ?_
  refine lv_aload_n hx hb d_C_advance_64 rfl (lv_at hl 0 rfl) ?_
  refine lv_aload_n hx hb d_C_advance_65 rfl (lv_at hl 0 rfl) ?_
  refine ro_V (As := []) (rest := [.ref (Z 0)]) (b := (Z 0)) ⟨hx, hb, hml, hown, hts⟩ (c_C_complaints l dC dI Z cI cP p0 q0 g0 h0 S n0 hn hn7) (cwV 0 hts (al_V k_328 k_187 k_188 k_1 k_189) rfl rfl rfl (by decide +kernel) ⟨Nat.le_of_ble_eq_true rfl, Nat.le_of_ble_eq_true rfl⟩) (fun U g mk a h => ⟨h.1, va_K.moved (u := U) (U := U.calling g mk a) (Vm.Alike.refl U.vm) h.2⟩) (va_recv hK hP (ci := 2) (q0 := 0) rfl rfl) (fun U hU hW => ⟨by rw [hU]; exact hP, va_K.moved hW.alike hK⟩) rfl hl.1 rfl (lv_room (Nat.le_of_ble_eq_true rfl)) d_C_advance_66 ⟨Nat.zero_le _, Nat.zero_le _⟩ ?_
  refine lv_aload_n hx hb d_C_advance_69 rfl (lv_at hl 0 rfl) ?_
  refine va_get (D := (dC, dI)) (ci := 2) (v := .int (S 0 2)) (C := "DealtSecret") (T := T_C) (N := 11) hx hb hts i_C hown hK hP 0 rfl rfl 7 (by decide) (hts _ k_108) (fun _ h9 => h9) rfl d_C_advance_70 ?_
  refine x_i (y := nI t0) (ht) ?_
  refine lv_icmp_lt (tgt := 81) hx hb d_C_advance_73 (by decide) (fun c73 => ?_) (fun c73 => ?_)
  · have hlt : ¬ t0 ≤ mz_ct (S 8) n0 := fun q => absurd c73 (nI_nlt q (by omega))
    refine lv_iconst (v := 4) hx hb d_C_advance_81 (by decide) ?_
    refine x_i (y := (if t0 ≤ mz_ct (S 8) n0 then 6 else 4)) ((if_neg hlt).symm) ?_
    refine va_put (D := (dC, dI)) (ci := 2) (v := .int (if t0 ≤ mz_ct (S 8) n0 then 6 else 4)) (ty := .int) (C := "DealtSecret") (T := T_C) (N := 11) hx hb hts i_C t_C t_C_ok n_C hown hK hP hD hS 0 rfl rfl 5 (by decide) (hts _ k_106) (fun _ h9 => h9) rfl (by decide +kernel) (rfl) (rfl) (Nat.le_of_ble_eq_true rfl) d_C_advance_82 (fun H locs hP hD hS => ?_)
    have hP : va_P (dC, dI) cls (wC Z cI cP p0 q0 g0 h0 (up S 0 0 (if t0 ≤ mz_ct (S 8) n0 then 6 else 4))) H := hP
    have hD : va_D (w_A (wC Z cI cP p0 q0 g0 h0 (S))) (wC Z cI cP p0 q0 g0 h0 (up S 0 0 (if t0 ≤ mz_ct (S 8) n0 then 6 else 4))) := hD
    refine lv_goto (tgt := 118) hx hb d_C_advance_85 (by decide) ?_
    refine lv_aload_n hx hb d_C_advance_118 rfl (lv_at hl 0 rfl) ?_
    refine va_get (D := (dC, dI)) (ci := 2) (v := .int ((up S 0 0 (if t0 ≤ mz_ct (S 8) n0 then 6 else 4)) 0 0)) (C := "DealtSecret") (T := T_C) (N := 11) hx hb hts i_C hown hK hP 0 rfl rfl 5 (by decide) (hts _ k_106) (fun _ h9 => h9) rfl d_C_advance_119 ?_
    refine x_i (y := (if t0 ≤ mz_ct (S 8) n0 then 6 else 4)) (up_at _ _ _ _) ?_
    exact wr_i hx hb hr hlk hP hS d_C_advance_122
  · have hlt : t0 ≤ mz_ct (S 8) n0 := Nat.not_lt.mp (fun q => c73 (nI_lt q (by omega)))
    refine lv_bipush (v := 6) hx hb d_C_advance_76 (by decide) ?_
    refine x_i (y := (if t0 ≤ mz_ct (S 8) n0 then 6 else 4)) ((if_pos hlt).symm) ?_
    refine lv_goto (tgt := 82) hx hb d_C_advance_78 (by decide) ?_
    refine va_put (D := (dC, dI)) (ci := 2) (v := .int (if t0 ≤ mz_ct (S 8) n0 then 6 else 4)) (ty := .int) (C := "DealtSecret") (T := T_C) (N := 11) hx hb hts i_C t_C t_C_ok n_C hown hK hP hD hS 0 rfl rfl 5 (by decide) (hts _ k_106) (fun _ h9 => h9) rfl (by decide +kernel) (rfl) (rfl) (Nat.le_of_ble_eq_true rfl) d_C_advance_82 (fun H locs hP hD hS => ?_)
    have hP : va_P (dC, dI) cls (wC Z cI cP p0 q0 g0 h0 (up S 0 0 (if t0 ≤ mz_ct (S 8) n0 then 6 else 4))) H := hP
    have hD : va_D (w_A (wC Z cI cP p0 q0 g0 h0 (S))) (wC Z cI cP p0 q0 g0 h0 (up S 0 0 (if t0 ≤ mz_ct (S 8) n0 then 6 else 4))) := hD
    refine lv_goto (tgt := 118) hx hb d_C_advance_85 (by decide) ?_
    refine lv_aload_n hx hb d_C_advance_118 rfl (lv_at hl 0 rfl) ?_
    refine va_get (D := (dC, dI)) (ci := 2) (v := .int ((up S 0 0 (if t0 ≤ mz_ct (S 8) n0 then 6 else 4)) 0 0)) (C := "DealtSecret") (T := T_C) (N := 11) hx hb hts i_C hown hK hP 0 rfl rfl 5 (by decide) (hts _ k_106) (fun _ h9 => h9) rfl d_C_advance_119 ?_
    refine x_i (y := (if t0 ≤ mz_ct (S 8) n0 then 6 else 4)) (up_at _ _ _ _) ?_
    exact wr_i hx hb hr hlk hP hS d_C_advance_122
set_option maxRecDepth 100000 in
set_option maxHeartbeats 4000000 in
/-- advance() of a deal that is answered -/
theorem c_C_advance4 (l : Launch) (dC : Nat → ClassId) (dI : Nat → Nat → Nat) (Z : Nat → Nat) (cI cP : ClassId) (p0 q0 g0 h0 : Nat) (S : Nat → Nat → Int32) (n0 : Nat) (hst : S 0 0 = 4) (hn : S 0 1 = nI n0) (hn7 : n0 ≤ 7) : Wr l y_C_advance ws_C_advance 6 138 [.ref (Z 0)] (dC, dI) cls (tysC cI cP) (wC Z cI cP p0 q0 g0 h0 (S)) (wC Z cI cP p0 q0 g0 h0 (up S 0 0 (st5 S n0))) (some (.int (st5 S n0))) := by
  refine Met.ofW (cc := b_C_advance) (maxL := 1) (ret := (some .int)) (by decide) rfl ?_
  intro p e s m args below meth c s₁ B hml hv
  obtain ⟨rfl, hP, hK, hD0⟩ := hv
  have hx := B.exec
  have hb := B.bytes
  have hr := B.returns
  have hts : ∀ w ∈ AL, w.before ([.ref (Z 0)] : List Value).toArray s = true := fun w h => atoms_spec (ws := ws_C_advance) B.pre w (List.mem_cons_of_mem _ h)
  have hown : s.vm.findClass "DealtSecret" = some m.cls := findClass_of_methodNamed B.named
  have hlk := B.notSynchronized
  have hl := lv_entry ([.ref (Z 0)]) (n := 1) (Nat.le_of_ble_eq_true rfl)
  rw [lg_entry_eq]
  generalize (lg_sl ([.ref (Z 0)]) ++ List.replicate (1 - (lg_sl ([.ref (Z 0)])).length) Slot.unset).toArray = ls at hl ⊢
  have hl : lv_has ls 1 [(0, .ref (Z 0))] := hl
  have hD := w_self hD0
  have hS : va_S (w_A (wC Z cI cP p0 q0 g0 h0 (S))) s.heap s.heap [] := va_S.rf
  refine lv_aload_n hx hb d_C_advance_0 rfl (lv_at hl 0 rfl) ?_
  refine va_get (D := (dC, dI)) (ci := 2) (v := .int (S 0 0)) (C := "DealtSecret") (T := T_C) (N := 11) hx hb hts i_C hown hK hP 0 rfl rfl 5 (by decide) (hts _ k_106) (fun _ h9 => h9) rfl d_C_advance_1 ?_
  refine x_i (y := 4) (hst) ?_
  refine lv_tableIn (tgt := 88) hx hb d_C_advance_4 (by decide) (by decide) rfl (by decide) ?_
  refine lv_aload_n hx hb d_C_advance_88 rfl (lv_at hl 0 rfl) ?_
  refine lv_aload_n hx hb d_C_advance_89 rfl (lv_at hl 0 rfl) ?_
  refine ro_V (As := []) (rest := [.ref (Z 0)]) (b := (Z 0)) ⟨hx, hb, hml, hown, hts⟩ (c_C_isEveryComplaintAnswered l dC dI Z cI cP p0 q0 g0 h0 S n0 hn hn7) (cwV 0 hts (al_V k_329 k_330 k_644 k_1 k_331) rfl rfl rfl (by decide +kernel) ⟨Nat.le_of_ble_eq_true rfl, Nat.le_of_ble_eq_true rfl⟩) (fun U g mk a h => ⟨h.1, va_K.moved (u := U) (U := U.calling g mk a) (Vm.Alike.refl U.vm) h.2⟩) (va_recv hK hP (ci := 2) (q0 := 0) rfl rfl) (fun U hU hW => ⟨by rw [hU]; exact hP, va_K.moved hW.alike hK⟩) rfl hl.1 rfl (lv_room (Nat.le_of_ble_eq_true rfl)) d_C_advance_90 ⟨Nat.zero_le _, Nat.zero_le _⟩ ?_
  refine lv_if_eq (tgt := 100) hx hb d_C_advance_93 (by decide) (fun c93 => ?_) (fun c93 => ?_)
  · refine lv_bipush (v := 6) hx hb d_C_advance_100 (by decide) ?_
    refine x_i (y := (st5 S n0)) ((if_neg (mz_b0.mp c93)).symm) ?_
    refine va_put (D := (dC, dI)) (ci := 2) (v := .int (st5 S n0)) (ty := .int) (C := "DealtSecret") (T := T_C) (N := 11) hx hb hts i_C t_C t_C_ok n_C hown hK hP hD hS 0 rfl rfl 5 (by decide) (hts _ k_106) (fun _ h9 => h9) rfl (by decide +kernel) (rfl) (rfl) (Nat.le_of_ble_eq_true rfl) d_C_advance_102 (fun H locs hP hD hS => ?_)
    have hP : va_P (dC, dI) cls (wC Z cI cP p0 q0 g0 h0 (up S 0 0 (st5 S n0))) H := hP
    have hD : va_D (w_A (wC Z cI cP p0 q0 g0 h0 (S))) (wC Z cI cP p0 q0 g0 h0 (up S 0 0 (st5 S n0))) := hD
    refine lv_goto (tgt := 118) hx hb d_C_advance_105 (by decide) ?_
    refine lv_aload_n hx hb d_C_advance_118 rfl (lv_at hl 0 rfl) ?_
    refine va_get (D := (dC, dI)) (ci := 2) (v := .int ((up S 0 0 (st5 S n0)) 0 0)) (C := "DealtSecret") (T := T_C) (N := 11) hx hb hts i_C hown hK hP 0 rfl rfl 5 (by decide) (hts _ k_106) (fun _ h9 => h9) rfl d_C_advance_119 ?_
    refine x_i (y := (st5 S n0)) (up_at _ _ _ _) ?_
    exact wr_i hx hb hr hlk hP hS d_C_advance_122
  · refine lv_iconst (v := 5) hx hb d_C_advance_96 (by decide) ?_
    refine x_i (y := (st5 S n0)) ((if_pos (Classical.not_not.mp (fun z => c93 (mz_bf z)))).symm) ?_
    refine lv_goto (tgt := 102) hx hb d_C_advance_97 (by decide) ?_
    refine va_put (D := (dC, dI)) (ci := 2) (v := .int (st5 S n0)) (ty := .int) (C := "DealtSecret") (T := T_C) (N := 11) hx hb hts i_C t_C t_C_ok n_C hown hK hP hD hS 0 rfl rfl 5 (by decide) (hts _ k_106) (fun _ h9 => h9) rfl (by decide +kernel) (rfl) (rfl) (Nat.le_of_ble_eq_true rfl) d_C_advance_102 (fun H locs hP hD hS => ?_)
    have hP : va_P (dC, dI) cls (wC Z cI cP p0 q0 g0 h0 (up S 0 0 (st5 S n0))) H := hP
    have hD : va_D (w_A (wC Z cI cP p0 q0 g0 h0 (S))) (wC Z cI cP p0 q0 g0 h0 (up S 0 0 (st5 S n0))) := hD
    refine lv_goto (tgt := 118) hx hb d_C_advance_105 (by decide) ?_
    refine lv_aload_n hx hb d_C_advance_118 rfl (lv_at hl 0 rfl) ?_
    refine va_get (D := (dC, dI)) (ci := 2) (v := .int ((up S 0 0 (st5 S n0)) 0 0)) (C := "DealtSecret") (T := T_C) (N := 11) hx hb hts i_C hown hK hP 0 rfl rfl 5 (by decide) (hts _ k_106) (fun _ h9 => h9) rfl d_C_advance_119 ?_
    refine x_i (y := (st5 S n0)) (up_at _ _ _ _) ?_
    exact wr_i hx hb hr hlk hP hS d_C_advance_122
end
section
/-- the first j places of the row r are 0 -/
def zr (S : Nat → Nat → Int32) (r j : Nat) : Nat → Nat → Int32 := fun f k => if f = r then (if k < j then 0 else S f k) else S f k
theorem zr_0 (S : Nat → Nat → Int32) (r : Nat) : zr S r 0 = S := by
  funext f k
  simp [zr]
theorem zr_s (S : Nat → Nat → Int32) (r j : Nat) : up (zr S r j) r j 0 = zr S r (j + 1) := by
  funext f k
  unfold up zr
  by_cases h : f = r
  · rw [if_pos h, if_pos h, if_pos h]
    by_cases c : k = j
    · rw [if_pos c, if_pos (by omega)]
    · rw [if_neg c]
      by_cases d : k < j
      · rw [if_pos d, if_pos (by omega)]
      · rw [if_neg d, if_neg (by omega)]
  · rw [if_neg h, if_neg h, if_neg h]
/-- a deal begins -/
def sAn (S : Nat → Nat → Int32) : Nat → Nat → Nat → Int32
  | 0 => S
  | j + 1 => stA (sAn S j) j
def bg3 (S : Nat → Nat → Int32) (n0 t0 : Nat) (b0 : Int32) : Nat → Nat → Int32 := zr (zr (up (up (up S 0 1 (nI n0)) 0 2 (nI t0)) 0 3 b0) 1 7) 2 7
def bgS (S : Nat → Nat → Int32) (n0 t0 : Nat) (b0 : Int32) : Nat → Nat → Int32 := up (up (sAn (bg3 S n0 t0 b0) n0) 0 4 0) 0 0 1
theorem nz_01 {b : Int32} (h : b = 0 ∨ b = 1) : narrow .boolean (.int b) = .int b ∧ fits .boolean (.int b) = true := by
  rcases h with rfl | rfl <;> exact ⟨rfl, rfl⟩
set_option maxRecDepth 100000 in
set_option maxHeartbeats 4000000 in
/-- Arrays.fill of a row of seven with 0 -/
theorem c_J_fill1 (l : Launch) (dC : Nat → ClassId) (dI : Nat → Nat → Nat) (Z : Nat → Nat) (cI cP : ClassId) (p0 q0 g0 h0 : Nat) (S : Nat → Nat → Int32) : Wr l y_J_fill ws_J_fill 0 0 [.ref (Z 2), .int 0] (dC, dI) cls (tysC cI cP) (wC Z cI cP p0 q0 g0 h0 (S)) (wC Z cI cP p0 q0 g0 h0 (zr S 1 7)) (none) := by
  refine va_MetF (cc := b_J_fill) (maxL := 4) (ret := none) (by decide +kernel) rfl ?_
  intro p e s m args below meth c s₁ B hml hv
  obtain ⟨rfl, hP, hK, hD0⟩ := hv
  have hx := B.exec
  have hb := B.bytes
  have hr := B.returns
  have hts : ∀ w ∈ AL, w.before ([.ref (Z 2), .int 0] : List Value).toArray s = true := fun w h => atoms_spec (ws := ws_J_fill) B.pre w (List.mem_cons_of_mem _ h)
  have hown : s.vm.findClass "java/util/Arrays" = some m.cls := findClass_of_methodNamed B.named
  have hlk := B.notSynchronized
  have hl := lv_entry ([.ref (Z 2), .int 0]) (n := 4) (Nat.le_of_ble_eq_true rfl)
  rw [lg_entry_eq]
  generalize (lg_sl ([.ref (Z 2), .int 0]) ++ List.replicate (4 - (lg_sl ([.ref (Z 2), .int 0])).length) Slot.unset).toArray = ls at hl ⊢
  have hl : lv_has ls 4 [(0, .ref (Z 2)), (1, .int 0)] := hl
  have hD := w_self hD0
  have hS : va_S (w_A (wC Z cI cP p0 q0 g0 h0 (S))) s.heap s.heap [] := va_S.rf
  have loop : ∀ (n j : Nat) (H : Heap) (locs : List Loc) (ls : Array Slot), 7 + 1 ≤ j + n → j ≤ 7 → va_P (dC, dI) cls (wC Z cI cP p0 q0 g0 h0 (zr S 1 j)) H → va_D (w_A (wC Z cI cP p0 q0 g0 h0 (S))) (wC Z cI cP p0 q0 g0 h0 (zr S 1 j)) → va_S (w_A (wC Z cI cP p0 q0 g0 h0 (S))) s.heap H locs → lv_has ls 4 [(0, .ref (Z 2)), (1, .int 0), (2, .int (nI j)), (3, .int (nI 7))] → W p l e (headSpec ws_J_fill { frames := 0, cells := 0, slots := 0, locals := 0 }).room s m [.ref (Z 2), .int 0].toArray below meth c H locs 0 0 (MQ below (fun _ st o t => o = .returned (none) ∧ va_P (dC, dI) cls (wC Z cI cP p0 q0 g0 h0 (zr S 1 7)) t.heap ∧ va_F (w_A (wC Z cI cP p0 q0 g0 h0 (S))) st t) [.ref (Z 2), .int 0].toArray s 0 0 (w_A (wC Z cI cP p0 q0 g0 h0 (S)))) (F0 m 5 ls []) := by
    intro n
    induction n with
    | zero =>
      intro j H locs ls h1 h2
      omega
    | succ n ih =>
      intro j H locs ls h1 h2 hP hD hS hl
      refine lv_iload_n hx hb d_J_fill_5 rfl (lv_at hl 2 rfl) ?_
      refine lv_iload_n hx hb d_J_fill_6 rfl (lv_at hl 3 rfl) ?_
      refine lv_icmp_ge (tgt := 20) hx hb d_J_fill_7 (by decide) (fun c7 => ?_) (fun c7 => ?_)
      · have hk : j = 7 := by
          rcases Nat.lt_or_ge j 7 with q | q
          · exact absurd c7 (nI_ge q (by omega))
          · omega
        subst hk
        exact wr_v hx hb hr hlk hP hS d_J_fill_20
      · have hk : j < 7 := by
          rcases Nat.lt_or_ge j 7 with q | q
          · exact q
          · exact absurd (nI_le q (by omega)) c7
        refine lv_aload_n hx hb d_J_fill_10 rfl (lv_at hl 0 rfl) ?_
        refine lv_iload_n hx hb d_J_fill_11 rfl (lv_at hl 2 rfl) ?_
        refine lv_iload_n hx hb d_J_fill_12 rfl (lv_at hl 1 rfl) ?_
        refine va_iast hx hb hK hP hD hS 2 0 rfl rfl (vp_in_nI (by omega) (by decide)) d_J_fill_13 (fun H locs hP hD hS => ?_)
        rw [nI_clamp (by omega)] at hP hD
        have hP : va_P (dC, dI) cls (wC Z cI cP p0 q0 g0 h0 (up (zr S 1 j) 1 j 0)) H := hP
        have hD : va_D (w_A (wC Z cI cP p0 q0 g0 h0 (S))) (wC Z cI cP p0 q0 g0 h0 (up (zr S 1 j) 1 j 0)) := hD
        refine lv_iinc (v := (nI (j + 1))) (lv' := [(2, .int (nI (j + 1))), (0, .ref (Z 2)), (1, .int 0), (3, .int (nI 7))]) hx hb d_J_fill_14 hl (k := 2) rfl (nI_1 j) (by decide) rfl (fun ls hl => ?_)
        refine lv_goto (tgt := 5) hx hb d_J_fill_17 (by decide) ?_
        exact ih (j + 1) H locs ls (by omega) (by omega) (by rw [← zr_s]; exact hP) (by rw [← zr_s]; exact hD) hS (lv_sub hl [1, 2, 0, 3] rfl)
  refine lv_iconst (v := (nI 0)) hx hb d_J_fill_0 (by decide) ?_
  refine lv_istore_n (lv' := [(2, .int (nI 0)), (0, .ref (Z 2)), (1, .int 0)]) hx hb d_J_fill_1 rfl hl (by decide) rfl (fun ls hl => ?_)
  refine lv_aload_n hx hb d_J_fill_2 rfl (lv_at hl 1 rfl) ?_
  refine va_alen (v := nI 7) hx hb hK hP 2 0 rfl rfl rfl d_J_fill_3 ?_
  refine lv_istore_n (lv' := [(3, .int (nI 7)), (2, .int (nI 0)), (0, .ref (Z 2)), (1, .int 0)]) hx hb d_J_fill_4 rfl hl (by decide) rfl (fun ls hl => ?_)
  exact loop 8 0 _ _ ls (by omega) (by omega) (by rw [zr_0]; exact hP) (by rw [zr_0]; exact hD) hS (lv_sub hl [2, 3, 1, 0] rfl)
set_option maxRecDepth 100000 in
set_option maxHeartbeats 4000000 in
/-- Arrays.fill of a row of seven with 0 -/
theorem c_J_fill2 (l : Launch) (dC : Nat → ClassId) (dI : Nat → Nat → Nat) (Z : Nat → Nat) (cI cP : ClassId) (p0 q0 g0 h0 : Nat) (S : Nat → Nat → Int32) : Wr l y_J_fill ws_J_fill 0 0 [.ref (Z 3), .int 0] (dC, dI) cls (tysC cI cP) (wC Z cI cP p0 q0 g0 h0 (S)) (wC Z cI cP p0 q0 g0 h0 (zr S 2 7)) (none) := by
  refine va_MetF (cc := b_J_fill) (maxL := 4) (ret := none) (by decide +kernel) rfl ?_
  intro p e s m args below meth c s₁ B hml hv
  obtain ⟨rfl, hP, hK, hD0⟩ := hv
  have hx := B.exec
  have hb := B.bytes
  have hr := B.returns
  have hts : ∀ w ∈ AL, w.before ([.ref (Z 3), .int 0] : List Value).toArray s = true := fun w h => atoms_spec (ws := ws_J_fill) B.pre w (List.mem_cons_of_mem _ h)
  have hown : s.vm.findClass "java/util/Arrays" = some m.cls := findClass_of_methodNamed B.named
  have hlk := B.notSynchronized
  have hl := lv_entry ([.ref (Z 3), .int 0]) (n := 4) (Nat.le_of_ble_eq_true rfl)
  rw [lg_entry_eq]
  generalize (lg_sl ([.ref (Z 3), .int 0]) ++ List.replicate (4 - (lg_sl ([.ref (Z 3), .int 0])).length) Slot.unset).toArray = ls at hl ⊢
  have hl : lv_has ls 4 [(0, .ref (Z 3)), (1, .int 0)] := hl
  have hD := w_self hD0
  have hS : va_S (w_A (wC Z cI cP p0 q0 g0 h0 (S))) s.heap s.heap [] := va_S.rf
  have loop : ∀ (n j : Nat) (H : Heap) (locs : List Loc) (ls : Array Slot), 7 + 1 ≤ j + n → j ≤ 7 → va_P (dC, dI) cls (wC Z cI cP p0 q0 g0 h0 (zr S 2 j)) H → va_D (w_A (wC Z cI cP p0 q0 g0 h0 (S))) (wC Z cI cP p0 q0 g0 h0 (zr S 2 j)) → va_S (w_A (wC Z cI cP p0 q0 g0 h0 (S))) s.heap H locs → lv_has ls 4 [(0, .ref (Z 3)), (1, .int 0), (2, .int (nI j)), (3, .int (nI 7))] → W p l e (headSpec ws_J_fill { frames := 0, cells := 0, slots := 0, locals := 0 }).room s m [.ref (Z 3), .int 0].toArray below meth c H locs 0 0 (MQ below (fun _ st o t => o = .returned (none) ∧ va_P (dC, dI) cls (wC Z cI cP p0 q0 g0 h0 (zr S 2 7)) t.heap ∧ va_F (w_A (wC Z cI cP p0 q0 g0 h0 (S))) st t) [.ref (Z 3), .int 0].toArray s 0 0 (w_A (wC Z cI cP p0 q0 g0 h0 (S)))) (F0 m 5 ls []) := by
    intro n
    induction n with
    | zero =>
      intro j H locs ls h1 h2
      omega
    | succ n ih =>
      intro j H locs ls h1 h2 hP hD hS hl
      refine lv_iload_n hx hb d_J_fill_5 rfl (lv_at hl 2 rfl) ?_
      refine lv_iload_n hx hb d_J_fill_6 rfl (lv_at hl 3 rfl) ?_
      refine lv_icmp_ge (tgt := 20) hx hb d_J_fill_7 (by decide) (fun c7 => ?_) (fun c7 => ?_)
      · have hk : j = 7 := by
          rcases Nat.lt_or_ge j 7 with q | q
          · exact absurd c7 (nI_ge q (by omega))
          · omega
        subst hk
        exact wr_v hx hb hr hlk hP hS d_J_fill_20
      · have hk : j < 7 := by
          rcases Nat.lt_or_ge j 7 with q | q
          · exact q
          · exact absurd (nI_le q (by omega)) c7
        refine lv_aload_n hx hb d_J_fill_10 rfl (lv_at hl 0 rfl) ?_
        refine lv_iload_n hx hb d_J_fill_11 rfl (lv_at hl 2 rfl) ?_
        refine lv_iload_n hx hb d_J_fill_12 rfl (lv_at hl 1 rfl) ?_
        refine va_iast hx hb hK hP hD hS 3 0 rfl rfl (vp_in_nI (by omega) (by decide)) d_J_fill_13 (fun H locs hP hD hS => ?_)
        rw [nI_clamp (by omega)] at hP hD
        have hP : va_P (dC, dI) cls (wC Z cI cP p0 q0 g0 h0 (up (zr S 2 j) 2 j 0)) H := hP
        have hD : va_D (w_A (wC Z cI cP p0 q0 g0 h0 (S))) (wC Z cI cP p0 q0 g0 h0 (up (zr S 2 j) 2 j 0)) := hD
        refine lv_iinc (v := (nI (j + 1))) (lv' := [(2, .int (nI (j + 1))), (0, .ref (Z 3)), (1, .int 0), (3, .int (nI 7))]) hx hb d_J_fill_14 hl (k := 2) rfl (nI_1 j) (by decide) rfl (fun ls hl => ?_)
        refine lv_goto (tgt := 5) hx hb d_J_fill_17 (by decide) ?_
        exact ih (j + 1) H locs ls (by omega) (by omega) (by rw [← zr_s]; exact hP) (by rw [← zr_s]; exact hD) hS (lv_sub hl [1, 2, 0, 3] rfl)
  refine lv_iconst (v := (nI 0)) hx hb d_J_fill_0 (by decide) ?_
  refine lv_istore_n (lv' := [(2, .int (nI 0)), (0, .ref (Z 3)), (1, .int 0)]) hx hb d_J_fill_1 rfl hl (by decide) rfl (fun ls hl => ?_)
  refine lv_aload_n hx hb d_J_fill_2 rfl (lv_at hl 1 rfl) ?_
  refine va_alen (v := nI 7) hx hb hK hP 3 0 rfl rfl rfl d_J_fill_3 ?_
  refine lv_istore_n (lv' := [(3, .int (nI 7)), (2, .int (nI 0)), (0, .ref (Z 3)), (1, .int 0)]) hx hb d_J_fill_4 rfl hl (by decide) rfl (fun ls hl => ?_)
  exact loop 8 0 _ _ ls (by omega) (by omega) (by rw [zr_0]; exact hP) (by rw [zr_0]; exact hD) hS (lv_sub hl [2, 3, 1, 0] rfl)
set_option maxRecDepth 100000 in
set_option maxHeartbeats 4000000 in
/-- begin(n, t, blind) where it is allowed -/
theorem c_C_begin (l : Launch) (dC : Nat → ClassId) (dI : Nat → Nat → Nat) (Z : Nat → Nat) (cI cP : ClassId) (p0 q0 g0 h0 : Nat) (S : Nat → Nat → Int32) (n0 t0 : Nat) (b0 : Int32) (hb0 : b0 = 0 ∨ b0 = 1) (hn1 : 1 ≤ n0) (hn7 : n0 ≤ 7) (ht1 : 1 ≤ t0) (htn : t0 ≤ n0) (hnq : n0 < q0) (ok : okG p0 q0 g0 h0) : Wr l y_C_begin ws_C_begin 1 23 [.ref (Z 0), .int (nI n0), .int (nI t0), .int b0] (dC, dI) cls (tysC cI cP) (wC Z cI cP p0 q0 g0 h0 (S)) (wC Z cI cP p0 q0 g0 h0 (bgS S n0 t0 b0)) (none) := by
  refine Met.ofW (cc := b_C_begin) (maxL := 5) (ret := none) (by decide) rfl ?_
  intro p e s m args below meth c s₁ B hml hv
  obtain ⟨rfl, hP, hK, hD0⟩ := hv
  have hx := B.exec
  have hb := B.bytes
  have hr := B.returns
  have hts : ∀ w ∈ AL, w.before ([.ref (Z 0), .int (nI n0), .int (nI t0), .int b0] : List Value).toArray s = true := fun w h => atoms_spec (ws := ws_C_begin) B.pre w (List.mem_cons_of_mem _ h)
  have hown : s.vm.findClass "DealtSecret" = some m.cls := findClass_of_methodNamed B.named
  have hlk := B.notSynchronized
  have hl := lv_entry ([.ref (Z 0), .int (nI n0), .int (nI t0), .int b0]) (n := 5) (Nat.le_of_ble_eq_true rfl)
  rw [lg_entry_eq]
  generalize (lg_sl ([.ref (Z 0), .int (nI n0), .int (nI t0), .int b0]) ++ List.replicate (5 - (lg_sl ([.ref (Z 0), .int (nI n0), .int (nI t0), .int b0])).length) Slot.unset).toArray = ls at hl ⊢
  have hl : lv_has ls 5 [(0, .ref (Z 0)), (1, .int (nI n0)), (2, .int (nI t0)), (3, .int b0)] := hl
  have hD := w_self hD0
  have hS : va_S (w_A (wC Z cI cP p0 q0 g0 h0 (S))) s.heap s.heap [] := va_S.rf
  obtain ⟨okp2, okp, okq2, okq, okg, okh⟩ := id ok
  have loop : ∀ (n j : Nat) (H : Heap) (locs : List Loc) (ls : Array Slot), n0 + 1 ≤ j + n → j ≤ n0 → va_P (dC, dI) cls (wC Z cI cP p0 q0 g0 h0 (sAn (bg3 S n0 t0 b0) j)) H → va_D (w_A (wC Z cI cP p0 q0 g0 h0 (S))) (wC Z cI cP p0 q0 g0 h0 (sAn (bg3 S n0 t0 b0) j)) → va_S (w_A (wC Z cI cP p0 q0 g0 h0 (S))) s.heap H locs → lv_has ls 5 [(0, .ref (Z 0)), (1, .int (nI n0)), (2, .int (nI t0)), (3, .int b0), (4, .int (nI j))] → W p l e (headSpec ws_C_begin { frames := 1, cells := 0, slots := 0, locals := 23 }).room s m [.ref (Z 0), .int (nI n0), .int (nI t0), .int b0].toArray below meth c H locs 0 0 (MQ below (fun _ st o t => o = .returned (none) ∧ va_P (dC, dI) cls (wC Z cI cP p0 q0 g0 h0 (bgS S n0 t0 b0)) t.heap ∧ va_F (w_A (wC Z cI cP p0 q0 g0 h0 (S))) st t) [.ref (Z 0), .int (nI n0), .int (nI t0), .int b0].toArray s 0 0 (w_A (wC Z cI cP p0 q0 g0 h0 (S)))) (F0 m 76 ls []) := by
    intro n
    induction n with
    | zero =>
      intro j H locs ls h1 h2
      omega
    | succ n ih =>
      intro j H locs ls h1 h2 hP hD hS hl
      refine lv_iload hx hb d_C_begin_76 (lv_at hl 4 rfl) ?_
      refine lv_iload_n hx hb d_C_begin_78 rfl (lv_at hl 1 rfl) ?_
      refine lv_icmp_ge (tgt := 98) hx hb d_C_begin_79 (by decide) (fun c79 => ?_) (fun c79 => ?_)
      · have hk : j = n0 := by
          rcases Nat.lt_or_ge j n0 with q | q
          · exact absurd c79 (nI_ge q (by omega))
          · omega
        subst hk
        refine lv_aload_n hx hb d_C_begin_98 rfl (lv_at hl 0 rfl) ?_
        refine lv_iconst (v := 0) hx hb d_C_begin_99 (by decide) ?_
        refine va_put (D := (dC, dI)) (ci := 2) (v := .int 0) (ty := .boolean) (C := "DealtSecret") (T := T_C) (N := 11) hx hb hts i_C t_C t_C_ok n_C hown hK hP hD hS 0 rfl rfl 9 (by decide) (hts _ k_110) (fun _ h9 => h9) rfl (by decide +kernel) (rfl) (rfl) (Nat.le_of_ble_eq_true rfl) d_C_begin_100 (fun H locs hP hD hS => ?_)
        have hP : va_P (dC, dI) cls (wC Z cI cP p0 q0 g0 h0 (up (sAn (bg3 S j t0 b0) j) 0 4 0)) H := hP
        have hD : va_D (w_A (wC Z cI cP p0 q0 g0 h0 (S))) (wC Z cI cP p0 q0 g0 h0 (up (sAn (bg3 S j t0 b0) j) 0 4 0)) := hD
        refine lv_aload_n hx hb d_C_begin_103 rfl (lv_at hl 0 rfl) ?_
        refine lv_iconst (v := 1) hx hb d_C_begin_104 (by decide) ?_
        refine va_put (D := (dC, dI)) (ci := 2) (v := .int 1) (ty := .int) (C := "DealtSecret") (T := T_C) (N := 11) hx hb hts i_C t_C t_C_ok n_C hown hK hP hD hS 0 rfl rfl 5 (by decide) (hts _ k_106) (fun _ h9 => h9) rfl (by decide +kernel) (rfl) (rfl) (Nat.le_of_ble_eq_true rfl) d_C_begin_105 (fun H locs hP hD hS => ?_)
        have hP : va_P (dC, dI) cls (wC Z cI cP p0 q0 g0 h0 (up (up (sAn (bg3 S j t0 b0) j) 0 4 0) 0 0 1)) H := hP
        have hD : va_D (w_A (wC Z cI cP p0 q0 g0 h0 (S))) (wC Z cI cP p0 q0 g0 h0 (up (up (sAn (bg3 S j t0 b0) j) 0 4 0) 0 0 1)) := hD
        exact wr_v hx hb hr hlk hP hS d_C_begin_108
      · have hk : j < n0 := by
          rcases Nat.lt_or_ge j n0 with q | q
          · exact q
          · exact absurd (nI_le q (by omega)) c79
        refine lv_aload_n hx hb d_C_begin_82 rfl (lv_at hl 0 rfl) ?_
        refine va_get (D := (dC, dI)) (ci := 2) (v := .ref (Z 5)) (C := "DealtSecret") (T := T_C) (N := 11) hx hb hts i_C hown hK hP 0 rfl rfl 4 (by decide) (hts _ k_105) (fun _ h9 => h9) rfl d_C_begin_83 ?_
        refine lv_iload hx hb d_C_begin_86 (lv_at hl 4 rfl) ?_
        refine va_aldq hx hb hK hP 5 1 rfl rfl (vp_in_nI (by omega) (by decide)) d_C_begin_88 ?_
        refine x_v (y := .ref (Z (6 + j))) (by rw [nI_clamp (by omega)]; rfl) ?_
        refine wr_V (As := []) (rest := []) (b := (Z (6 + j))) ⟨hx, hb, hml, hown, hts⟩ (c_P_startAnew l dC dI Z cI cP p0 q0 g0 h0 (sAn (bg3 S n0 t0 b0) j) j (by omega)) (cwV 0 hts (al_V k_258 k_259 k_260 k_3 k_261) rfl rfl rfl (by decide +kernel) ⟨Nat.le_of_ble_eq_true rfl, Nat.le_of_ble_eq_true rfl⟩) (va_recv hK hP (ci := 1) (q0 := (6 + j)) rfl (w_part (by omega))) hP hK hD hS rfl hl.1 rfl (lv_room (Nat.le_of_ble_eq_true rfl)) d_C_begin_89 ⟨Nat.zero_le _, Nat.zero_le _⟩ (fun H locs hP _ _ hS => ?_)
        have hD := w_addr hD (w_adC (sAn (bg3 S n0 t0 b0) j) (sAn (bg3 S n0 t0 b0) (j + 1)))
        refine lv_iinc (v := (nI (j + 1))) (lv' := [(4, .int (nI (j + 1))), (0, .ref (Z 0)), (1, .int (nI n0)), (2, .int (nI t0)), (3, .int b0)]) hx hb d_C_begin_92 hl (k := 4) rfl (nI_1 j) (by decide) rfl (fun ls hl => ?_)
        refine lv_goto (tgt := 76) hx hb d_C_begin_95 (by decide) ?_
        exact ih (j + 1) H locs ls (by omega) (by omega) hP hD hS (lv_sub hl [1, 2, 3, 4, 0] rfl)
  refine lv_iload_n hx hb d_C_begin_0 rfl (lv_at hl 1 rfl) ?_
  refine lv_iconst (v := (nI 1)) hx hb d_C_begin_1 (by decide) ?_
  refine lv_icmp_lt (tgt := 32) hx hb d_C_begin_2 (by decide) (fun c_ => absurd c_ (nI_nlt hn1 (by omega))) (fun _ => ?_)
  refine lv_iload_n hx hb d_C_begin_5 rfl (lv_at hl 1 rfl) ?_
  refine lv_bipush (v := (nI 7)) hx hb d_C_begin_6 (by decide) ?_
  refine lv_icmp_gt (tgt := 32) hx hb d_C_begin_8 (by decide) (fun c_ => absurd c_ (nI_nlt hn7 (by omega))) (fun _ => ?_)
  refine lv_iload_n hx hb d_C_begin_11 rfl (lv_at hl 2 rfl) ?_
  refine lv_iconst (v := (nI 1)) hx hb d_C_begin_12 (by decide) ?_
  refine lv_icmp_lt (tgt := 32) hx hb d_C_begin_13 (by decide) (fun c_ => absurd c_ (nI_nlt ht1 (by omega))) (fun _ => ?_)
  refine lv_iload_n hx hb d_C_begin_16 rfl (lv_at hl 2 rfl) ?_
  refine lv_iload_n hx hb d_C_begin_17 rfl (lv_at hl 1 rfl) ?_
  refine lv_icmp_gt (tgt := 32) hx hb d_C_begin_18 (by decide) (fun c_ => absurd c_ (nI_nlt htn (by omega))) (fun _ => ?_)
  refine lv_aload_n hx hb d_C_begin_21 rfl (lv_at hl 0 rfl) ?_
  refine va_get (D := (dC, dI)) (ci := 2) (v := .ref (Z 1)) (C := "DealtSecret") (T := T_C) (N := 11) hx hb hts i_C hown hK hP 0 rfl rfl 0 (by decide) (hts _ k_101) (fun _ h9 => h9) rfl d_C_begin_22 ?_
  refine va_get (D := (dC, dI)) (ci := 0) (v := .int (nI q0)) (C := "DealtSecret$Group") (T := T_G) (N := 4) hx hb hts i_G hown hK hP 1 rfl rfl 1 (by decide) (hts _ k_45) (fun _ h9 => h9) rfl d_C_begin_25 ?_
  refine lv_iload_n hx hb d_C_begin_28 rfl (lv_at hl 1 rfl) ?_
  refine lv_icmp_gt (tgt := 42) hx hb d_C_begin_29 (by decide) (fun _ => ?_) (fun c_ => absurd (nI_lt hnq okq) c_)
  refine lv_aload_n hx hb d_C_begin_42 rfl (lv_at hl 0 rfl) ?_
  refine lv_iload_n hx hb d_C_begin_43 rfl (lv_at hl 1 rfl) ?_
  refine va_put (D := (dC, dI)) (ci := 2) (v := .int (nI n0)) (ty := .int) (C := "DealtSecret") (T := T_C) (N := 11) hx hb hts i_C t_C t_C_ok n_C hown hK hP hD hS 0 rfl rfl 6 (by decide) (hts _ k_107) (fun _ h9 => h9) rfl (by decide +kernel) (rfl) (rfl) (Nat.le_of_ble_eq_true rfl) d_C_begin_44 (fun H locs hP hD hS => ?_)
  have hP : va_P (dC, dI) cls (wC Z cI cP p0 q0 g0 h0 (up S 0 1 (nI n0))) H := hP
  have hD : va_D (w_A (wC Z cI cP p0 q0 g0 h0 (S))) (wC Z cI cP p0 q0 g0 h0 (up S 0 1 (nI n0))) := hD
  refine lv_aload_n hx hb d_C_begin_47 rfl (lv_at hl 0 rfl) ?_
  refine lv_iload_n hx hb d_C_begin_48 rfl (lv_at hl 2 rfl) ?_
  refine va_put (D := (dC, dI)) (ci := 2) (v := .int (nI t0)) (ty := .int) (C := "DealtSecret") (T := T_C) (N := 11) hx hb hts i_C t_C t_C_ok n_C hown hK hP hD hS 0 rfl rfl 7 (by decide) (hts _ k_108) (fun _ h9 => h9) rfl (by decide +kernel) (rfl) (rfl) (Nat.le_of_ble_eq_true rfl) d_C_begin_49 (fun H locs hP hD hS => ?_)
  have hP : va_P (dC, dI) cls (wC Z cI cP p0 q0 g0 h0 (up (up S 0 1 (nI n0)) 0 2 (nI t0))) H := hP
  have hD : va_D (w_A (wC Z cI cP p0 q0 g0 h0 (S))) (wC Z cI cP p0 q0 g0 h0 (up (up S 0 1 (nI n0)) 0 2 (nI t0))) := hD
  refine lv_aload_n hx hb d_C_begin_52 rfl (lv_at hl 0 rfl) ?_
  refine lv_iload_n hx hb d_C_begin_53 rfl (lv_at hl 3 rfl) ?_
  refine va_put (D := (dC, dI)) (ci := 2) (v := .int b0) (ty := .boolean) (C := "DealtSecret") (T := T_C) (N := 11) hx hb hts i_C t_C t_C_ok n_C hown hK hP hD hS 0 rfl rfl 8 (by decide) (hts _ k_109) (fun _ h9 => h9) rfl (by decide +kernel) ((nz_01 hb0).1) ((nz_01 hb0).2) (Nat.le_of_ble_eq_true rfl) d_C_begin_54 (fun H locs hP hD hS => ?_)
  have hP : va_P (dC, dI) cls (wC Z cI cP p0 q0 g0 h0 (up (up (up S 0 1 (nI n0)) 0 2 (nI t0)) 0 3 b0)) H := hP
  have hD : va_D (w_A (wC Z cI cP p0 q0 g0 h0 (S))) (wC Z cI cP p0 q0 g0 h0 (up (up (up S 0 1 (nI n0)) 0 2 (nI t0)) 0 3 b0)) := hD
  refine lv_aload_n hx hb d_C_begin_57 rfl (lv_at hl 0 rfl) ?_
  refine va_get (D := (dC, dI)) (ci := 2) (v := .ref (Z 2)) (C := "DealtSecret") (T := T_C) (N := 11) hx hb hts i_C hown hK hP 0 rfl rfl 1 (by decide) (hts _ k_102) (fun _ h9 => h9) rfl d_C_begin_58 ?_
  refine lv_iconst (v := 0) hx hb d_C_begin_61 (by decide) ?_
  refine wr_S (As := [.ref (Z 2), .int 0]) (rest := []) ⟨hx, hb, hml, hown, hts⟩ (c_J_fill1 l dC dI Z cI cP p0 q0 g0 h0 (up (up (up S 0 1 (nI n0)) 0 2 (nI t0)) 0 3 b0)) (va_cwS 2 hts (al_S k_255 k_256 k_9 k_257) rfl rfl rfl (by decide +kernel) ⟨Nat.le_of_ble_eq_true rfl, Nat.le_of_ble_eq_true rfl⟩) hP hK hD hS rfl hl.1 rfl (lv_room (Nat.le_of_ble_eq_true rfl)) d_C_begin_62 ⟨Nat.zero_le _, Nat.zero_le _⟩ (fun H locs hP _ _ hS => ?_)
  have hD := w_addr hD (w_adC (up (up (up S 0 1 (nI n0)) 0 2 (nI t0)) 0 3 b0) (zr (up (up (up S 0 1 (nI n0)) 0 2 (nI t0)) 0 3 b0) 1 7))
  refine lv_aload_n hx hb d_C_begin_65 rfl (lv_at hl 0 rfl) ?_
  refine va_get (D := (dC, dI)) (ci := 2) (v := .ref (Z 3)) (C := "DealtSecret") (T := T_C) (N := 11) hx hb hts i_C hown hK hP 0 rfl rfl 2 (by decide) (hts _ k_103) (fun _ h9 => h9) rfl d_C_begin_66 ?_
  refine lv_iconst (v := 0) hx hb d_C_begin_69 (by decide) ?_
  refine wr_S (As := [.ref (Z 3), .int 0]) (rest := []) ⟨hx, hb, hml, hown, hts⟩ (c_J_fill2 l dC dI Z cI cP p0 q0 g0 h0 (zr (up (up (up S 0 1 (nI n0)) 0 2 (nI t0)) 0 3 b0) 1 7)) (va_cwS 2 hts (al_S k_255 k_256 k_9 k_257) rfl rfl rfl (by decide +kernel) ⟨Nat.le_of_ble_eq_true rfl, Nat.le_of_ble_eq_true rfl⟩) hP hK hD hS rfl hl.1 rfl (lv_room (Nat.le_of_ble_eq_true rfl)) d_C_begin_70 ⟨Nat.zero_le _, Nat.zero_le _⟩ (fun H locs hP _ _ hS => ?_)
  have hD := w_addr hD (w_adC (zr (up (up (up S 0 1 (nI n0)) 0 2 (nI t0)) 0 3 b0) 1 7) (bg3 S n0 t0 b0))
  refine lv_iconst (v := (nI 0)) hx hb d_C_begin_73 (by decide) ?_
  refine lv_istore (lv' := [(4, .int (nI 0)), (0, .ref (Z 0)), (1, .int (nI n0)), (2, .int (nI t0)), (3, .int b0)]) hx hb d_C_begin_74 hl (by decide) rfl (fun ls hl => ?_)
  exact loop (n0 + 1) 0 _ _ ls (by omega) (by omega) hP hD hS (lv_sub hl [1, 2, 3, 4, 0] rfl)
end
section
/-! throwing: what the start says of the exceptions, the throw itself, a call that throws -/
abbrev xC : List String := ["java/lang/IllegalStateException", "java/lang/IllegalArgumentException", "java/util/NoSuchElementException"]
abbrev xS : List (Nat × String) := [(53, "no deal has these numbers"), (115, "no stage follows this one"), (125, "a commitment is 1 .. p - 1"), (127, "the stage is another"), (137, "this participant has not complained"), (160, "too few pairs are open"), (181, "no two pairs tell the relation"), (196, "there is no such participant"), (198, "there is no such coefficient")]
abbrev xUp : List String := ["java/lang/RuntimeException", "java/lang/Exception"]
abbrev xDn : List String := ["java/lang/RuntimeException", "java/lang/Exception", Bundle.tN]
def xx (U : State) : Prop := ((∀ X ∈ xC, va_Nw (.castable X X) U) ∧ ∀ X ∈ xDn, va_Nw (.declares (Bundle.initS X)) U) ∧ vx_Zq Bundle.tN "UNASSIGNED_STACK" Bundle.steD (fun _ => False) U U.heap ∧ vx_Zq Bundle.tN "SUPPRESSED_SENTINEL" Bundle.listD (fun _ => False) U U.heap ∧ ∀ q ∈ xS, ∃ a, vk_R "DealtSecret" q.1 q.2 a U
theorem xx_bl {U : State} (g : JFrame) (mk : MethodId) (a : Array Value) (h : xx U) : xx (U.calling g mk a) :=
  ⟨⟨fun X hX => va_Nw.same rfl (u := U) rfl (h.1.1 X hX), fun X hX => va_Nw.same rfl (u := U) rfl (h.1.2 X hX)⟩, h.2.1.moved (u := U) (U := U.calling g mk a) (Vm.Alike.refl U.vm), h.2.2.1.moved (u := U) (U := U.calling g mk a) (Vm.Alike.refl U.vm), fun q hq => by
    obtain ⟨b, hb⟩ := h.2.2.2 q hq
    exact ⟨b, vk_R.same (u := U) rfl hb⟩⟩
theorem xx_to {s U : State} (hW : s.WarmedH U.vm) (hH : ∀ a : Nat, a < s.heap.size → U.heap[a]? = s.heap[a]?) (h : xx s) : xx U :=
  ⟨⟨fun X hX => va_Nw.warmC hW (h.1.1 X hX), fun X hX => va_Nw.warmD hW (h.1.2 X hX)⟩, (h.2.1.moved hW.alike).kept (fun a ha _ => hH a ha), (h.2.2.1.moved hW.alike).kept (fun a ha _ => hH a ha), fun q hq => by
    obtain ⟨b, hb⟩ := h.2.2.2 q hq
    exact ⟨b, hb.warm hW⟩⟩
def tX (X : String) : String → State → State → Prop := fun E st t => E = X ∧ va_F (fun _ => False) st t
/-- a method that throws an object of the class X, and changes nothing that was there -/
abbrev Tc (l : Launch) (y : MethodName) (ws : List Cond) (fr lo : Nat) (av : List Value) (B : State → Prop) (X : String) : Prop :=
  vx_Met l y ws { frames := fr, cells := 1, slots := 6, locals := lo } (va_Pc av B) (fun _ _ _ _ => False) (tX X) 1 6 (fun _ => False)
abbrev tQ (below : List Frame) (X : String) (a : Array Value) (s : State) : State → Prop := vx_MQ below (fun _ _ _ _ => False) (tX X) a s 1 6 (fun _ => False)
section TX
variable {p : Program} {l : Launch} {e : Env} {R : Room} {s : State} {m : MethodId} {args : Array Value} {below : List Frame} {meth : Method} {c : Code} {H : Heap} {locs : List Loc} {cells slots : Nat} {Q : State → Prop}
variable {cc : ByteArray} {pc : Nat} {ls : Array Slot} {rest : List Value}
theorem tx_throw (hx : p.tables.exec = Jvm.exec) (hb : c.code = cc) (hl : l.stackTraces = false) (hemp : ∀ x ∈ c.exceptionTable.toList, False) (hlk : meth.locks = false) (hsz : ls.size = c.maxLocals)
    {X tx : String} {ic ik is : Nat} (hown : s.vm.findClass "DealtSecret" = some m.cls) (hfit : Bundle.fit X = true)
    (hts : ∀ w ∈ AL, w.before args s = true) (hg : ∀ w ∈ (vx_atS "DealtSecret" ic X xUp).filter goodWord, w ∈ AL) (hng : ∀ w ∈ (vx_atS "DealtSecret" ic X xUp).filter (fun w => !goodWord w), w ∈ [Cond.castable X X, Cond.declares (Bundle.initS "java/lang/RuntimeException"), Cond.declares (Bundle.initS "java/lang/Exception"), Cond.declares (Bundle.initS Bundle.tN)])
    (hgood : ∀ w ∈ Cond.classLink "DealtSecret" ik X :: Cond.initialized X :: vx_atS "DealtSecret" ic X xUp, vx_ot w = true)
    (hk : Cond.classLink "DealtSecret" ik X ∈ AL) (hini : Cond.initialized X ∈ AL) (hxx : xx s) (hX : X ∈ xC) (hq : (is, tx) ∈ xS)
    (d0 : decode cc pc = .ok (.new ik, 3)) (d3 : decode cc (pc + 3) = .ok (.dup, 1)) (d4 : decode cc (pc + 4) = .ok (.ldc is, 2)) (d6 : decode cc (pc + 6) = .ok (.invokespecial ic, 3)) (d9 : decode cc (pc + 9) = .ok (.athrow, 1))
    (hfr : 5 < R.frames) (hlo : (rest.map fun v => v.category).sum + 82 ≤ R.locals) (hc : 0 + 1 ≤ R.cells) (hs : 0 + 6 ≤ R.slots) :
    W p l e R s m args below meth c s.heap [] 0 0 (tQ below X args s) (F0 m pc ls rest) := by
  obtain ⟨sa, hsa⟩ := hxx.2.2.2 _ hq
  refine vx_throwS hx hb hl hown hfit (names := xUp) (by decide +kernel) (hts _ hk) (hts _ hini) hsa (vx_hat (fun w h => hts w (hg w h)) hng (vx_c (va_Nw.use rfl (hxx.1.1 X hX)) (vx_c (va_Nw.use rfl (hxx.1.2 _ (by simp))) (vx_c (va_Nw.use rfl (hxx.1.2 _ (by simp))) (vx_c (va_Nw.use rfl (hxx.1.2 _ (by simp))) vx_n))))) hgood hxx.2.1 hxx.2.2.1 va_S.rf hsz d0 d3 d4 d6 d9 (fun x hx => (hemp x hx).elim) hfr (by show _ + (13 * (2 + 1) + 43) ≤ _; omega) hc hs hlk (fun t _ hz hk => ⟨rfl, hz, fun q h1 _ => hk q h1⟩) (fun z hz => by cases hz) (Nat.le_refl _) (Nat.le_refl _)
section TXC
variable {Ts ws : List Cond} {own C X : String} {nL n index maxL fr lo : Nat} {y : MethodName} {bytes : ByteArray} {ret : Option FieldType} {B : State → Prop} {As st : List Value} {b : Addr}
/-- a call that throws, and the exception leaves the caller too -/
theorem tx_passV (S : CallFix p m c cc nL s args Ts own) (hM : Tc l y ws fr lo (.ref b :: As) B X) (cw : CallW R s args own C index y bytes maxL ret ws { frames := fr, cells := 1, slots := 6, locals := lo } 1 6 n)
    (hbl : ∀ (U : State) (g : JFrame) (mk : MethodId) (a : Array Value), B U → B (U.calling g mk a)) (hrec : ∃ cellB : Cell, s.heap[b]? = some cellB ∧ cellB.vm.isStatics = false ∧ s.vm.findClass C = some cellB.cls) (hB : ∀ U : State, U.heap = s.heap → s.WarmedH U.vm → B U)
    (hn : As.length = n) (hsz : ls.size = nL) (hst : st = As.reverse ++ .ref b :: rest) (hW : 2 * (F0 m pc ls st).monitorRoom + (rest.map fun v => v.category).sum ≤ 8) (hdg : decode cc pc = .ok (.invokevirtual index, 3)) (hf : 0 + 1 ≤ R.cells ∧ 0 + 6 ≤ R.slots)
    (hemp : ∀ x ∈ c.exceptionTable.toList, False) (hlk : meth.locks = false) : W p l e R s m args below meth c s.heap [] 0 0 (tQ below X args s) (F0 m pc ls st) := by
  have hr : vx_Run p l e R s m args below meth c s.heap [] 0 0 1 6 (F0 m pc ls st) rest ((fun _ _ _ _ => False) (Value.ref b :: As).toArray) (tX X) (fun _ => False) := vx_runV (As := As) (rest := rest) (b := b) S hM cw ⟨fun a U g mk q => ⟨q.1, hbl U g mk a q.2⟩, hrec, fun U hU hW => ⟨rfl, hB U hU hW⟩⟩ rfl hn hsz hst hW hdg hf
  intro T hT X0
  rcases hr T hT X0 with ⟨v, st₀, t, T', L, h0, X', hL, e1, e2, hF, st1⟩ | ⟨q, st₀, t, T', L, E, ce, h0, X', hL, e1, e2, ⟨hE, hz, hkeep⟩, hce, hcv, hcl, st1⟩
  · exact hF.elim
  · subst hE
    rw [h0] at hz hkeep
    have k : vx_W p l e R s m args below meth c T'.heap ([] ++ L) (0 + 1) (0 + 6) (tQ below E args s) (F0 m pc ls rest) q := vx_out (ce := ce) (fun x hx => (hemp x hx).elim) hlk (by rw [e1]; exact hce) hcv hcl (fun t9 ht9 _ => ⟨rfl, by rw [ht9, e1]; exact hz, fun q9 h1 h2 => by rw [ht9, e1]; exact hkeep q9 h1 h2⟩) (fun z hz => hL z (by simpa using hz)) (Nat.le_refl _) (Nat.le_refl _)
    obtain ⟨t2, a1, b1⟩ := k T' rfl X'
    exact ⟨t2, st1.trans a1, b1⟩
end TXC
end TX
abbrev bX (dC : Nat → ClassId) (dI : Nat → Nat → Nat) (Z : Nat → Nat) (cI cP : ClassId) (p0 q0 g0 h0 : Nat) (S : Nat → Nat → Int32) : State → Prop := fun U => bC dC dI Z cI cP p0 q0 g0 h0 S U ∧ xx U
theorem xg_ISE : ∀ w ∈ (vx_atS "DealtSecret" 117 "java/lang/IllegalStateException" xUp).filter goodWord, w ∈ AL := by decide +kernel
theorem xn_ISE : ∀ w ∈ (vx_atS "DealtSecret" 117 "java/lang/IllegalStateException" xUp).filter (fun w => !goodWord w), w ∈ [Cond.castable "java/lang/IllegalStateException" "java/lang/IllegalStateException", Cond.declares (Bundle.initS "java/lang/RuntimeException"), Cond.declares (Bundle.initS "java/lang/Exception"), Cond.declares (Bundle.initS Bundle.tN)] := by decide +kernel
theorem xg_IAE : ∀ w ∈ (vx_atS "DealtSecret" 55 "java/lang/IllegalArgumentException" xUp).filter goodWord, w ∈ AL := by decide +kernel
theorem xn_IAE : ∀ w ∈ (vx_atS "DealtSecret" 55 "java/lang/IllegalArgumentException" xUp).filter (fun w => !goodWord w), w ∈ [Cond.castable "java/lang/IllegalArgumentException" "java/lang/IllegalArgumentException", Cond.declares (Bundle.initS "java/lang/RuntimeException"), Cond.declares (Bundle.initS "java/lang/Exception"), Cond.declares (Bundle.initS Bundle.tN)] := by decide +kernel
end
section
set_option maxRecDepth 100000 in
set_option maxHeartbeats 4000000 in
/-- demandStage(w) where the stage is another -/
theorem t_C_demandStage (l : Launch) (hlt : l.stackTraces = false) (dC : Nat → ClassId) (dI : Nat → Nat → Nat) (Z : Nat → Nat) (cI cP : ClassId) (p0 q0 g0 h0 : Nat) (S : Nat → Nat → Int32) (w0 : Int32) (hne : ¬ S 0 0 = w0) : Tc l y_C_demandStage ws_C_demandStage 6 82 [.ref (Z 0), .int w0] (bX dC dI Z cI cP p0 q0 g0 h0 S) "java/lang/IllegalStateException" := by
  refine vx_ofW (cc := b_C_demandStage) (maxL := 2) (ret := none) (by decide) rfl ?_
  intro p e s m args below meth c s₁ B hml hemp hv
  obtain ⟨rfl, ⟨hP, hK⟩, hxx⟩ := hv
  have hx := B.exec
  have hb := B.bytes
  have hr := B.returns
  have hts : ∀ w ∈ AL, w.before ([.ref (Z 0), .int w0] : List Value).toArray s = true := fun w h => atoms_spec (ws := ws_C_demandStage) B.pre w (List.mem_cons_of_mem _ h)
  have hown : s.vm.findClass "DealtSecret" = some m.cls := findClass_of_methodNamed B.named
  have hlk := B.notSynchronized
  have hl := lv_entry ([.ref (Z 0), .int w0]) (n := 2) (Nat.le_of_ble_eq_true rfl)
  rw [lg_entry_eq]
  generalize (lg_sl ([.ref (Z 0), .int w0]) ++ List.replicate (2 - (lg_sl ([.ref (Z 0), .int w0])).length) Slot.unset).toArray = ls at hl ⊢
  have hl : lv_has ls 2 [(0, .ref (Z 0)), (1, .int w0)] := hl
  refine lv_aload_n hx hb d_C_demandStage_0 rfl (lv_at hl 0 rfl) ?_
  refine va_get (D := (dC, dI)) (ci := 2) (v := .int (S 0 0)) (C := "DealtSecret") (T := T_C) (N := 11) hx hb hts i_C hown hK hP 0 rfl rfl 5 (by decide) (hts _ k_106) (fun _ h9 => h9) rfl d_C_demandStage_1 ?_
  refine lv_iload_n hx hb d_C_demandStage_4 rfl (lv_at hl 1 rfl) ?_
  refine lv_icmp_eq (tgt := 18) hx hb d_C_demandStage_5 (by decide) (fun c_ => absurd c_ (hne)) (fun _ => ?_)
  exact tx_throw (tx := "the stage is another") hx hb hlt hemp hlk (hl.1.trans hml.symm) hown (by decide +kernel) hts xg_ISE xn_ISE (by decide +kernel) k_272 k_10 hxx (by decide +kernel) (by decide +kernel) d_C_demandStage_8 d_C_demandStage_11 d_C_demandStage_12 d_C_demandStage_14 d_C_demandStage_17 (Nat.le_of_ble_eq_true rfl) (Nat.le_of_ble_eq_true rfl) (Nat.le_of_ble_eq_true rfl) (Nat.le_of_ble_eq_true rfl)
set_option maxRecDepth 100000 in
set_option maxHeartbeats 4000000 in
/-- demandParticipant(i) where there is none -/
theorem t_C_demandParticipant (l : Launch) (hlt : l.stackTraces = false) (dC : Nat → ClassId) (dI : Nat → Nat → Nat) (Z : Nat → Nat) (cI cP : ClassId) (p0 q0 g0 h0 : Nat) (S : Nat → Nat → Int32) (i0 : Int32) (hne : ¬ isPt (S 0 1) i0) : Tc l y_C_demandParticipant ws_C_demandParticipant 6 82 [.ref (Z 0), .int i0] (bX dC dI Z cI cP p0 q0 g0 h0 S) "java/lang/IllegalArgumentException" := by
  refine vx_ofW (cc := b_C_demandParticipant) (maxL := 2) (ret := none) (by decide) rfl ?_
  intro p e s m args below meth c s₁ B hml hemp hv
  obtain ⟨rfl, ⟨hP, hK⟩, hxx⟩ := hv
  have hx := B.exec
  have hb := B.bytes
  have hr := B.returns
  have hts : ∀ w ∈ AL, w.before ([.ref (Z 0), .int i0] : List Value).toArray s = true := fun w h => atoms_spec (ws := ws_C_demandParticipant) B.pre w (List.mem_cons_of_mem _ h)
  have hown : s.vm.findClass "DealtSecret" = some m.cls := findClass_of_methodNamed B.named
  have hlk := B.notSynchronized
  have hl := lv_entry ([.ref (Z 0), .int i0]) (n := 2) (Nat.le_of_ble_eq_true rfl)
  rw [lg_entry_eq]
  generalize (lg_sl ([.ref (Z 0), .int i0]) ++ List.replicate (2 - (lg_sl ([.ref (Z 0), .int i0])).length) Slot.unset).toArray = ls at hl ⊢
  have hl : lv_has ls 2 [(0, .ref (Z 0)), (1, .int i0)] := hl
  refine lv_aload_n hx hb d_C_demandParticipant_0 rfl (lv_at hl 0 rfl) ?_
  refine lv_iload_n hx hb d_C_demandParticipant_1 rfl (lv_at hl 1 rfl) ?_
  refine ro_V (As := [.int i0]) (rest := []) (b := (Z 0)) ⟨hx, hb, hml, hown, hts⟩ (c_C_isParticipant l dC dI Z cI cP p0 q0 g0 h0 S i0) (cwV 1 hts (al_V k_156 k_157 k_632 k_1 k_158) rfl rfl rfl (by decide +kernel) ⟨Nat.le_of_ble_eq_true rfl, Nat.le_of_ble_eq_true rfl⟩) (fun U g mk a h => ⟨h.1, va_K.moved (u := U) (U := U.calling g mk a) (Vm.Alike.refl U.vm) h.2⟩) (va_recv hK hP (ci := 2) (q0 := 0) rfl rfl) (fun U hU hW => ⟨by rw [hU]; exact hP, va_K.moved hW.alike hK⟩) rfl hl.1 rfl (lv_room (Nat.le_of_ble_eq_true rfl)) d_C_demandParticipant_2 ⟨Nat.zero_le _, Nat.zero_le _⟩ ?_
  refine lv_if_ne (tgt := 18) hx hb d_C_demandParticipant_5 (by decide) (fun c_ => absurd (mz_bf hne) c_) (fun _ => ?_)
  exact tx_throw (tx := "there is no such participant") hx hb hlt hemp hlk (hl.1.trans hml.symm) hown (by decide +kernel) hts xg_IAE xn_IAE (by decide +kernel) k_204 k_8 hxx (by decide +kernel) (by decide +kernel) d_C_demandParticipant_8 d_C_demandParticipant_11 d_C_demandParticipant_12 d_C_demandParticipant_14 d_C_demandParticipant_17 (Nat.le_of_ble_eq_true rfl) (Nat.le_of_ble_eq_true rfl) (Nat.le_of_ble_eq_true rfl) (Nat.le_of_ble_eq_true rfl)
set_option maxRecDepth 100000 in
set_option maxHeartbeats 4000000 in
/-- demandCoefficient(k) where there is none -/
theorem t_C_demandCoefficient (l : Launch) (hlt : l.stackTraces = false) (dC : Nat → ClassId) (dI : Nat → Nat → Nat) (Z : Nat → Nat) (cI cP : ClassId) (p0 q0 g0 h0 : Nat) (S : Nat → Nat → Int32) (k0 : Int32) (hne : ¬ isCf (S 0 2) k0) : Tc l y_C_demandCoefficient ws_C_demandCoefficient 6 82 [.ref (Z 0), .int k0] (bX dC dI Z cI cP p0 q0 g0 h0 S) "java/lang/IllegalArgumentException" := by
  refine vx_ofW (cc := b_C_demandCoefficient) (maxL := 2) (ret := none) (by decide) rfl ?_
  intro p e s m args below meth c s₁ B hml hemp hv
  obtain ⟨rfl, ⟨hP, hK⟩, hxx⟩ := hv
  have hx := B.exec
  have hb := B.bytes
  have hr := B.returns
  have hts : ∀ w ∈ AL, w.before ([.ref (Z 0), .int k0] : List Value).toArray s = true := fun w h => atoms_spec (ws := ws_C_demandCoefficient) B.pre w (List.mem_cons_of_mem _ h)
  have hown : s.vm.findClass "DealtSecret" = some m.cls := findClass_of_methodNamed B.named
  have hlk := B.notSynchronized
  have hl := lv_entry ([.ref (Z 0), .int k0]) (n := 2) (Nat.le_of_ble_eq_true rfl)
  rw [lg_entry_eq]
  generalize (lg_sl ([.ref (Z 0), .int k0]) ++ List.replicate (2 - (lg_sl ([.ref (Z 0), .int k0])).length) Slot.unset).toArray = ls at hl ⊢
  have hl : lv_has ls 2 [(0, .ref (Z 0)), (1, .int k0)] := hl
  refine lv_aload_n hx hb d_C_demandCoefficient_0 rfl (lv_at hl 0 rfl) ?_
  refine lv_iload_n hx hb d_C_demandCoefficient_1 rfl (lv_at hl 1 rfl) ?_
  refine ro_V (As := [.int k0]) (rest := []) (b := (Z 0)) ⟨hx, hb, hml, hown, hts⟩ (c_C_isCoefficient l dC dI Z cI cP p0 q0 g0 h0 S k0) (cwV 1 hts (al_V k_149 k_150 k_631 k_1 k_151) rfl rfl rfl (by decide +kernel) ⟨Nat.le_of_ble_eq_true rfl, Nat.le_of_ble_eq_true rfl⟩) (fun U g mk a h => ⟨h.1, va_K.moved (u := U) (U := U.calling g mk a) (Vm.Alike.refl U.vm) h.2⟩) (va_recv hK hP (ci := 2) (q0 := 0) rfl rfl) (fun U hU hW => ⟨by rw [hU]; exact hP, va_K.moved hW.alike hK⟩) rfl hl.1 rfl (lv_room (Nat.le_of_ble_eq_true rfl)) d_C_demandCoefficient_2 ⟨Nat.zero_le _, Nat.zero_le _⟩ ?_
  refine lv_if_ne (tgt := 18) hx hb d_C_demandCoefficient_5 (by decide) (fun c_ => absurd (mz_bf hne) c_) (fun _ => ?_)
  exact tx_throw (tx := "there is no such coefficient") hx hb hlt hemp hlk (hl.1.trans hml.symm) hown (by decide +kernel) hts xg_IAE xn_IAE (by decide +kernel) k_204 k_8 hxx (by decide +kernel) (by decide +kernel) d_C_demandCoefficient_8 d_C_demandCoefficient_11 d_C_demandCoefficient_12 d_C_demandCoefficient_14 d_C_demandCoefficient_17 (Nat.le_of_ble_eq_true rfl) (Nat.le_of_ble_eq_true rfl) (Nat.le_of_ble_eq_true rfl) (Nat.le_of_ble_eq_true rfl)
end
section
/-- begin(n, t, ..) is allowed -/
def bgOk (n t q : Int32) : Prop := ¬ n < 1 ∧ ¬ 7 < n ∧ ¬ t < 1 ∧ ¬ n < t ∧ n < q
set_option maxRecDepth 100000 in
set_option maxHeartbeats 4000000 in
/-- coefficient in another stage -/
theorem t_C_coefficient_st (l : Launch) (hlt : l.stackTraces = false) (dC : Nat → ClassId) (dI : Nat → Nat → Nat) (Z : Nat → Nat) (cI cP : ClassId) (p0 q0 g0 h0 : Nat) (S : Nat → Nat → Int32) (k1 x1 y1 : Int32) (hne : ¬ S 0 0 = 1) : Tc l y_C_coefficient ws_C_coefficient 7 103 [.ref (Z 0), .int k1, .int x1, .int y1] (bX dC dI Z cI cP p0 q0 g0 h0 S) "java/lang/IllegalStateException" := by
  refine vx_ofW (cc := b_C_coefficient) (maxL := 4) (ret := none) (by decide) rfl ?_
  intro p e s m args below meth c s₁ B hml hemp hv
  obtain ⟨rfl, ⟨hP, hK⟩, hxx⟩ := hv
  have hx := B.exec
  have hb := B.bytes
  have hr := B.returns
  have hts : ∀ w ∈ AL, w.before ([.ref (Z 0), .int k1, .int x1, .int y1] : List Value).toArray s = true := fun w h => atoms_spec (ws := ws_C_coefficient) B.pre w (List.mem_cons_of_mem _ h)
  have hown : s.vm.findClass "DealtSecret" = some m.cls := findClass_of_methodNamed B.named
  have hlk := B.notSynchronized
  have hl := lv_entry ([.ref (Z 0), .int k1, .int x1, .int y1]) (n := 4) (Nat.le_of_ble_eq_true rfl)
  rw [lg_entry_eq]
  generalize (lg_sl ([.ref (Z 0), .int k1, .int x1, .int y1]) ++ List.replicate (4 - (lg_sl ([.ref (Z 0), .int k1, .int x1, .int y1])).length) Slot.unset).toArray = ls at hl ⊢
  have hl : lv_has ls 4 [(0, .ref (Z 0)), (1, .int k1), (2, .int x1), (3, .int y1)] := hl
  refine lv_aload_n hx hb d_C_coefficient_0 rfl (lv_at hl 0 rfl) ?_
  refine lv_iconst (v := 1) hx hb d_C_coefficient_1 (by decide) ?_
  exact tx_passV (As := [.int 1]) (rest := []) (b := (Z 0)) ⟨hx, hb, hml, hown, hts⟩ (t_C_demandStage l hlt dC dI Z cI cP p0 q0 g0 h0 S 1 hne) (cwV 1 hts (al_V k_269 k_270 k_637 k_1 k_271) rfl rfl rfl (by decide +kernel) ⟨Nat.le_of_ble_eq_true rfl, Nat.le_of_ble_eq_true rfl⟩) (fun U g mk a h => ⟨⟨h.1.1, va_K.moved (u := U) (U := U.calling g mk a) (Vm.Alike.refl U.vm) h.1.2⟩, xx_bl g mk a h.2⟩) (va_recv hK hP (ci := 2) (q0 := 0) rfl rfl) (fun U hU hW => ⟨⟨by rw [hU]; exact hP, va_K.moved hW.alike hK⟩, xx_to hW (fun a _ => by rw [hU]) hxx⟩) rfl hl.1 rfl (lv_room (Nat.le_of_ble_eq_true rfl)) d_C_coefficient_2 ⟨Nat.le_of_ble_eq_true rfl, Nat.le_of_ble_eq_true rfl⟩ hemp hlk
set_option maxRecDepth 100000 in
set_option maxHeartbeats 4000000 in
/-- coefficient of no coefficient -/
theorem t_C_coefficient_cf (l : Launch) (hlt : l.stackTraces = false) (dC : Nat → ClassId) (dI : Nat → Nat → Nat) (Z : Nat → Nat) (cI cP : ClassId) (p0 q0 g0 h0 : Nat) (S : Nat → Nat → Int32) (k1 x1 y1 : Int32) (hst : S 0 0 = 1) (hne : ¬ isCf (S 0 2) k1) : Tc l y_C_coefficient ws_C_coefficient 7 103 [.ref (Z 0), .int k1, .int x1, .int y1] (bX dC dI Z cI cP p0 q0 g0 h0 S) "java/lang/IllegalArgumentException" := by
  refine vx_ofW (cc := b_C_coefficient) (maxL := 4) (ret := none) (by decide) rfl ?_
  intro p e s m args below meth c s₁ B hml hemp hv
  obtain ⟨rfl, ⟨hP, hK⟩, hxx⟩ := hv
  have hx := B.exec
  have hb := B.bytes
  have hr := B.returns
  have hts : ∀ w ∈ AL, w.before ([.ref (Z 0), .int k1, .int x1, .int y1] : List Value).toArray s = true := fun w h => atoms_spec (ws := ws_C_coefficient) B.pre w (List.mem_cons_of_mem _ h)
  have hown : s.vm.findClass "DealtSecret" = some m.cls := findClass_of_methodNamed B.named
  have hlk := B.notSynchronized
  have hl := lv_entry ([.ref (Z 0), .int k1, .int x1, .int y1]) (n := 4) (Nat.le_of_ble_eq_true rfl)
  rw [lg_entry_eq]
  generalize (lg_sl ([.ref (Z 0), .int k1, .int x1, .int y1]) ++ List.replicate (4 - (lg_sl ([.ref (Z 0), .int k1, .int x1, .int y1])).length) Slot.unset).toArray = ls at hl ⊢
  have hl : lv_has ls 4 [(0, .ref (Z 0)), (1, .int k1), (2, .int x1), (3, .int y1)] := hl
  refine lv_aload_n hx hb d_C_coefficient_0 rfl (lv_at hl 0 rfl) ?_
  refine lv_iconst (v := 1) hx hb d_C_coefficient_1 (by decide) ?_
  refine rv_V (As := [.int 1]) (rest := []) (b := (Z 0)) ⟨hx, hb, hml, hown, hts⟩ (c_C_demandStage l dC dI Z cI cP p0 q0 g0 h0 S 1 hst) (cwV 1 hts (al_V k_269 k_270 k_637 k_1 k_271) rfl rfl rfl (by decide +kernel) ⟨Nat.le_of_ble_eq_true rfl, Nat.le_of_ble_eq_true rfl⟩) (fun U g mk a h => ⟨h.1, va_K.moved (u := U) (U := U.calling g mk a) (Vm.Alike.refl U.vm) h.2⟩) (va_recv hK hP (ci := 2) (q0 := 0) rfl rfl) (fun U hU hW => ⟨by rw [hU]; exact hP, va_K.moved hW.alike hK⟩) rfl hl.1 rfl (lv_room (Nat.le_of_ble_eq_true rfl)) d_C_coefficient_2 ⟨Nat.zero_le _, Nat.zero_le _⟩ ?_
  refine lv_aload_n hx hb d_C_coefficient_5 rfl (lv_at hl 0 rfl) ?_
  refine lv_iload_n hx hb d_C_coefficient_6 rfl (lv_at hl 1 rfl) ?_
  exact tx_passV (As := [.int k1]) (rest := []) (b := (Z 0)) ⟨hx, hb, hml, hown, hts⟩ (t_C_demandCoefficient l hlt dC dI Z cI cP p0 q0 g0 h0 S k1 hne) (cwV 1 hts (al_V k_285 k_286 k_638 k_1 k_287) rfl rfl rfl (by decide +kernel) ⟨Nat.le_of_ble_eq_true rfl, Nat.le_of_ble_eq_true rfl⟩) (fun U g mk a h => ⟨⟨h.1.1, va_K.moved (u := U) (U := U.calling g mk a) (Vm.Alike.refl U.vm) h.1.2⟩, xx_bl g mk a h.2⟩) (va_recv hK hP (ci := 2) (q0 := 0) rfl rfl) (fun U hU hW => ⟨⟨by rw [hU]; exact hP, va_K.moved hW.alike hK⟩, xx_to hW (fun a _ => by rw [hU]) hxx⟩) rfl hl.1 rfl (lv_room (Nat.le_of_ble_eq_true rfl)) d_C_coefficient_7 ⟨Nat.le_of_ble_eq_true rfl, Nat.le_of_ble_eq_true rfl⟩ hemp hlk
set_option maxRecDepth 100000 in
set_option maxHeartbeats 4000000 in
/-- tamper in another stage -/
theorem t_C_tamper_st (l : Launch) (hlt : l.stackTraces = false) (dC : Nat → ClassId) (dI : Nat → Nat → Nat) (Z : Nat → Nat) (cI cP : ClassId) (p0 q0 g0 h0 : Nat) (S : Nat → Nat → Int32) (i1 x1 y1 : Int32) (hne : ¬ S 0 0 = 2) : Tc l y_C_tamper ws_C_tamper 7 103 [.ref (Z 0), .int i1, .int x1, .int y1] (bX dC dI Z cI cP p0 q0 g0 h0 S) "java/lang/IllegalStateException" := by
  refine vx_ofW (cc := b_C_tamper) (maxL := 4) (ret := none) (by decide) rfl ?_
  intro p e s m args below meth c s₁ B hml hemp hv
  obtain ⟨rfl, ⟨hP, hK⟩, hxx⟩ := hv
  have hx := B.exec
  have hb := B.bytes
  have hr := B.returns
  have hts : ∀ w ∈ AL, w.before ([.ref (Z 0), .int i1, .int x1, .int y1] : List Value).toArray s = true := fun w h => atoms_spec (ws := ws_C_tamper) B.pre w (List.mem_cons_of_mem _ h)
  have hown : s.vm.findClass "DealtSecret" = some m.cls := findClass_of_methodNamed B.named
  have hlk := B.notSynchronized
  have hl := lv_entry ([.ref (Z 0), .int i1, .int x1, .int y1]) (n := 4) (Nat.le_of_ble_eq_true rfl)
  rw [lg_entry_eq]
  generalize (lg_sl ([.ref (Z 0), .int i1, .int x1, .int y1]) ++ List.replicate (4 - (lg_sl ([.ref (Z 0), .int i1, .int x1, .int y1])).length) Slot.unset).toArray = ls at hl ⊢
  have hl : lv_has ls 4 [(0, .ref (Z 0)), (1, .int i1), (2, .int x1), (3, .int y1)] := hl
  refine lv_aload_n hx hb d_C_tamper_0 rfl (lv_at hl 0 rfl) ?_
  refine lv_iconst (v := 2) hx hb d_C_tamper_1 (by decide) ?_
  exact tx_passV (As := [.int 2]) (rest := []) (b := (Z 0)) ⟨hx, hb, hml, hown, hts⟩ (t_C_demandStage l hlt dC dI Z cI cP p0 q0 g0 h0 S 2 hne) (cwV 1 hts (al_V k_269 k_270 k_637 k_1 k_271) rfl rfl rfl (by decide +kernel) ⟨Nat.le_of_ble_eq_true rfl, Nat.le_of_ble_eq_true rfl⟩) (fun U g mk a h => ⟨⟨h.1.1, va_K.moved (u := U) (U := U.calling g mk a) (Vm.Alike.refl U.vm) h.1.2⟩, xx_bl g mk a h.2⟩) (va_recv hK hP (ci := 2) (q0 := 0) rfl rfl) (fun U hU hW => ⟨⟨by rw [hU]; exact hP, va_K.moved hW.alike hK⟩, xx_to hW (fun a _ => by rw [hU]) hxx⟩) rfl hl.1 rfl (lv_room (Nat.le_of_ble_eq_true rfl)) d_C_tamper_2 ⟨Nat.le_of_ble_eq_true rfl, Nat.le_of_ble_eq_true rfl⟩ hemp hlk
set_option maxRecDepth 100000 in
set_option maxHeartbeats 4000000 in
/-- tamper of nobody -/
theorem t_C_tamper_pt (l : Launch) (hlt : l.stackTraces = false) (dC : Nat → ClassId) (dI : Nat → Nat → Nat) (Z : Nat → Nat) (cI cP : ClassId) (p0 q0 g0 h0 : Nat) (S : Nat → Nat → Int32) (i1 x1 y1 : Int32) (hst : S 0 0 = 2) (hne : ¬ isPt (S 0 1) i1) : Tc l y_C_tamper ws_C_tamper 7 103 [.ref (Z 0), .int i1, .int x1, .int y1] (bX dC dI Z cI cP p0 q0 g0 h0 S) "java/lang/IllegalArgumentException" := by
  refine vx_ofW (cc := b_C_tamper) (maxL := 4) (ret := none) (by decide) rfl ?_
  intro p e s m args below meth c s₁ B hml hemp hv
  obtain ⟨rfl, ⟨hP, hK⟩, hxx⟩ := hv
  have hx := B.exec
  have hb := B.bytes
  have hr := B.returns
  have hts : ∀ w ∈ AL, w.before ([.ref (Z 0), .int i1, .int x1, .int y1] : List Value).toArray s = true := fun w h => atoms_spec (ws := ws_C_tamper) B.pre w (List.mem_cons_of_mem _ h)
  have hown : s.vm.findClass "DealtSecret" = some m.cls := findClass_of_methodNamed B.named
  have hlk := B.notSynchronized
  have hl := lv_entry ([.ref (Z 0), .int i1, .int x1, .int y1]) (n := 4) (Nat.le_of_ble_eq_true rfl)
  rw [lg_entry_eq]
  generalize (lg_sl ([.ref (Z 0), .int i1, .int x1, .int y1]) ++ List.replicate (4 - (lg_sl ([.ref (Z 0), .int i1, .int x1, .int y1])).length) Slot.unset).toArray = ls at hl ⊢
  have hl : lv_has ls 4 [(0, .ref (Z 0)), (1, .int i1), (2, .int x1), (3, .int y1)] := hl
  refine lv_aload_n hx hb d_C_tamper_0 rfl (lv_at hl 0 rfl) ?_
  refine lv_iconst (v := 2) hx hb d_C_tamper_1 (by decide) ?_
  refine rv_V (As := [.int 2]) (rest := []) (b := (Z 0)) ⟨hx, hb, hml, hown, hts⟩ (c_C_demandStage l dC dI Z cI cP p0 q0 g0 h0 S 2 hst) (cwV 1 hts (al_V k_269 k_270 k_637 k_1 k_271) rfl rfl rfl (by decide +kernel) ⟨Nat.le_of_ble_eq_true rfl, Nat.le_of_ble_eq_true rfl⟩) (fun U g mk a h => ⟨h.1, va_K.moved (u := U) (U := U.calling g mk a) (Vm.Alike.refl U.vm) h.2⟩) (va_recv hK hP (ci := 2) (q0 := 0) rfl rfl) (fun U hU hW => ⟨by rw [hU]; exact hP, va_K.moved hW.alike hK⟩) rfl hl.1 rfl (lv_room (Nat.le_of_ble_eq_true rfl)) d_C_tamper_2 ⟨Nat.zero_le _, Nat.zero_le _⟩ ?_
  refine lv_aload_n hx hb d_C_tamper_5 rfl (lv_at hl 0 rfl) ?_
  refine lv_iload_n hx hb d_C_tamper_6 rfl (lv_at hl 1 rfl) ?_
  exact tx_passV (As := [.int i1]) (rest := []) (b := (Z 0)) ⟨hx, hb, hml, hown, hts⟩ (t_C_demandParticipant l hlt dC dI Z cI cP p0 q0 g0 h0 S i1 hne) (cwV 1 hts (al_V k_338 k_339 k_645 k_1 k_340) rfl rfl rfl (by decide +kernel) ⟨Nat.le_of_ble_eq_true rfl, Nat.le_of_ble_eq_true rfl⟩) (fun U g mk a h => ⟨⟨h.1.1, va_K.moved (u := U) (U := U.calling g mk a) (Vm.Alike.refl U.vm) h.1.2⟩, xx_bl g mk a h.2⟩) (va_recv hK hP (ci := 2) (q0 := 0) rfl rfl) (fun U hU hW => ⟨⟨by rw [hU]; exact hP, va_K.moved hW.alike hK⟩, xx_to hW (fun a _ => by rw [hU]) hxx⟩) rfl hl.1 rfl (lv_room (Nat.le_of_ble_eq_true rfl)) d_C_tamper_7 ⟨Nat.le_of_ble_eq_true rfl, Nat.le_of_ble_eq_true rfl⟩ hemp hlk
set_option maxRecDepth 100000 in
set_option maxHeartbeats 4000000 in
/-- forge in another stage -/
theorem t_C_forge_st (l : Launch) (hlt : l.stackTraces = false) (dC : Nat → ClassId) (dI : Nat → Nat → Nat) (Z : Nat → Nat) (cI cP : ClassId) (p0 q0 g0 h0 : Nat) (S : Nat → Nat → Int32) (k1 x1 : Int32) (hne : ¬ S 0 0 = 2) : Tc l y_C_forge ws_C_forge 7 103 [.ref (Z 0), .int k1, .int x1] (bX dC dI Z cI cP p0 q0 g0 h0 S) "java/lang/IllegalStateException" := by
  refine vx_ofW (cc := b_C_forge) (maxL := 3) (ret := none) (by decide) rfl ?_
  intro p e s m args below meth c s₁ B hml hemp hv
  obtain ⟨rfl, ⟨hP, hK⟩, hxx⟩ := hv
  have hx := B.exec
  have hb := B.bytes
  have hr := B.returns
  have hts : ∀ w ∈ AL, w.before ([.ref (Z 0), .int k1, .int x1] : List Value).toArray s = true := fun w h => atoms_spec (ws := ws_C_forge) B.pre w (List.mem_cons_of_mem _ h)
  have hown : s.vm.findClass "DealtSecret" = some m.cls := findClass_of_methodNamed B.named
  have hlk := B.notSynchronized
  have hl := lv_entry ([.ref (Z 0), .int k1, .int x1]) (n := 3) (Nat.le_of_ble_eq_true rfl)
  rw [lg_entry_eq]
  generalize (lg_sl ([.ref (Z 0), .int k1, .int x1]) ++ List.replicate (3 - (lg_sl ([.ref (Z 0), .int k1, .int x1])).length) Slot.unset).toArray = ls at hl ⊢
  have hl : lv_has ls 3 [(0, .ref (Z 0)), (1, .int k1), (2, .int x1)] := hl
  refine lv_aload_n hx hb d_C_forge_0 rfl (lv_at hl 0 rfl) ?_
  refine lv_iconst (v := 2) hx hb d_C_forge_1 (by decide) ?_
  exact tx_passV (As := [.int 2]) (rest := []) (b := (Z 0)) ⟨hx, hb, hml, hown, hts⟩ (t_C_demandStage l hlt dC dI Z cI cP p0 q0 g0 h0 S 2 hne) (cwV 1 hts (al_V k_269 k_270 k_637 k_1 k_271) rfl rfl rfl (by decide +kernel) ⟨Nat.le_of_ble_eq_true rfl, Nat.le_of_ble_eq_true rfl⟩) (fun U g mk a h => ⟨⟨h.1.1, va_K.moved (u := U) (U := U.calling g mk a) (Vm.Alike.refl U.vm) h.1.2⟩, xx_bl g mk a h.2⟩) (va_recv hK hP (ci := 2) (q0 := 0) rfl rfl) (fun U hU hW => ⟨⟨by rw [hU]; exact hP, va_K.moved hW.alike hK⟩, xx_to hW (fun a _ => by rw [hU]) hxx⟩) rfl hl.1 rfl (lv_room (Nat.le_of_ble_eq_true rfl)) d_C_forge_2 ⟨Nat.le_of_ble_eq_true rfl, Nat.le_of_ble_eq_true rfl⟩ hemp hlk
set_option maxRecDepth 100000 in
set_option maxHeartbeats 4000000 in
/-- forge of no coefficient -/
theorem t_C_forge_cf (l : Launch) (hlt : l.stackTraces = false) (dC : Nat → ClassId) (dI : Nat → Nat → Nat) (Z : Nat → Nat) (cI cP : ClassId) (p0 q0 g0 h0 : Nat) (S : Nat → Nat → Int32) (k1 x1 : Int32) (hst : S 0 0 = 2) (hne : ¬ isCf (S 0 2) k1) : Tc l y_C_forge ws_C_forge 7 103 [.ref (Z 0), .int k1, .int x1] (bX dC dI Z cI cP p0 q0 g0 h0 S) "java/lang/IllegalArgumentException" := by
  refine vx_ofW (cc := b_C_forge) (maxL := 3) (ret := none) (by decide) rfl ?_
  intro p e s m args below meth c s₁ B hml hemp hv
  obtain ⟨rfl, ⟨hP, hK⟩, hxx⟩ := hv
  have hx := B.exec
  have hb := B.bytes
  have hr := B.returns
  have hts : ∀ w ∈ AL, w.before ([.ref (Z 0), .int k1, .int x1] : List Value).toArray s = true := fun w h => atoms_spec (ws := ws_C_forge) B.pre w (List.mem_cons_of_mem _ h)
  have hown : s.vm.findClass "DealtSecret" = some m.cls := findClass_of_methodNamed B.named
  have hlk := B.notSynchronized
  have hl := lv_entry ([.ref (Z 0), .int k1, .int x1]) (n := 3) (Nat.le_of_ble_eq_true rfl)
  rw [lg_entry_eq]
  generalize (lg_sl ([.ref (Z 0), .int k1, .int x1]) ++ List.replicate (3 - (lg_sl ([.ref (Z 0), .int k1, .int x1])).length) Slot.unset).toArray = ls at hl ⊢
  have hl : lv_has ls 3 [(0, .ref (Z 0)), (1, .int k1), (2, .int x1)] := hl
  refine lv_aload_n hx hb d_C_forge_0 rfl (lv_at hl 0 rfl) ?_
  refine lv_iconst (v := 2) hx hb d_C_forge_1 (by decide) ?_
  refine rv_V (As := [.int 2]) (rest := []) (b := (Z 0)) ⟨hx, hb, hml, hown, hts⟩ (c_C_demandStage l dC dI Z cI cP p0 q0 g0 h0 S 2 hst) (cwV 1 hts (al_V k_269 k_270 k_637 k_1 k_271) rfl rfl rfl (by decide +kernel) ⟨Nat.le_of_ble_eq_true rfl, Nat.le_of_ble_eq_true rfl⟩) (fun U g mk a h => ⟨h.1, va_K.moved (u := U) (U := U.calling g mk a) (Vm.Alike.refl U.vm) h.2⟩) (va_recv hK hP (ci := 2) (q0 := 0) rfl rfl) (fun U hU hW => ⟨by rw [hU]; exact hP, va_K.moved hW.alike hK⟩) rfl hl.1 rfl (lv_room (Nat.le_of_ble_eq_true rfl)) d_C_forge_2 ⟨Nat.zero_le _, Nat.zero_le _⟩ ?_
  refine lv_aload_n hx hb d_C_forge_5 rfl (lv_at hl 0 rfl) ?_
  refine lv_iload_n hx hb d_C_forge_6 rfl (lv_at hl 1 rfl) ?_
  exact tx_passV (As := [.int k1]) (rest := []) (b := (Z 0)) ⟨hx, hb, hml, hown, hts⟩ (t_C_demandCoefficient l hlt dC dI Z cI cP p0 q0 g0 h0 S k1 hne) (cwV 1 hts (al_V k_285 k_286 k_638 k_1 k_287) rfl rfl rfl (by decide +kernel) ⟨Nat.le_of_ble_eq_true rfl, Nat.le_of_ble_eq_true rfl⟩) (fun U g mk a h => ⟨⟨h.1.1, va_K.moved (u := U) (U := U.calling g mk a) (Vm.Alike.refl U.vm) h.1.2⟩, xx_bl g mk a h.2⟩) (va_recv hK hP (ci := 2) (q0 := 0) rfl rfl) (fun U hU hW => ⟨⟨by rw [hU]; exact hP, va_K.moved hW.alike hK⟩, xx_to hW (fun a _ => by rw [hU]) hxx⟩) rfl hl.1 rfl (lv_room (Nat.le_of_ble_eq_true rfl)) d_C_forge_7 ⟨Nat.le_of_ble_eq_true rfl, Nat.le_of_ble_eq_true rfl⟩ hemp hlk
set_option maxRecDepth 100000 in
set_option maxHeartbeats 4000000 in
/-- forge with no element -/
theorem t_C_forge_x (l : Launch) (hlt : l.stackTraces = false) (dC : Nat → ClassId) (dI : Nat → Nat → Nat) (Z : Nat → Nat) (cI cP : ClassId) (p0 q0 g0 h0 : Nat) (S : Nat → Nat → Int32) (k1 x1 : Int32) (hst : S 0 0 = 2) (hcf : isCf (S 0 2) k1) (hbad : x1 < 1 ∨ ¬ x1 < nI p0) : Tc l y_C_forge ws_C_forge 7 103 [.ref (Z 0), .int k1, .int x1] (bX dC dI Z cI cP p0 q0 g0 h0 S) "java/lang/IllegalArgumentException" := by
  refine vx_ofW (cc := b_C_forge) (maxL := 3) (ret := none) (by decide) rfl ?_
  intro p e s m args below meth c s₁ B hml hemp hv
  obtain ⟨rfl, ⟨hP, hK⟩, hxx⟩ := hv
  have hx := B.exec
  have hb := B.bytes
  have hr := B.returns
  have hts : ∀ w ∈ AL, w.before ([.ref (Z 0), .int k1, .int x1] : List Value).toArray s = true := fun w h => atoms_spec (ws := ws_C_forge) B.pre w (List.mem_cons_of_mem _ h)
  have hown : s.vm.findClass "DealtSecret" = some m.cls := findClass_of_methodNamed B.named
  have hlk := B.notSynchronized
  have hl := lv_entry ([.ref (Z 0), .int k1, .int x1]) (n := 3) (Nat.le_of_ble_eq_true rfl)
  rw [lg_entry_eq]
  generalize (lg_sl ([.ref (Z 0), .int k1, .int x1]) ++ List.replicate (3 - (lg_sl ([.ref (Z 0), .int k1, .int x1])).length) Slot.unset).toArray = ls at hl ⊢
  have hl : lv_has ls 3 [(0, .ref (Z 0)), (1, .int k1), (2, .int x1)] := hl
  refine lv_aload_n hx hb d_C_forge_0 rfl (lv_at hl 0 rfl) ?_
  refine lv_iconst (v := 2) hx hb d_C_forge_1 (by decide) ?_
  refine rv_V (As := [.int 2]) (rest := []) (b := (Z 0)) ⟨hx, hb, hml, hown, hts⟩ (c_C_demandStage l dC dI Z cI cP p0 q0 g0 h0 S 2 hst) (cwV 1 hts (al_V k_269 k_270 k_637 k_1 k_271) rfl rfl rfl (by decide +kernel) ⟨Nat.le_of_ble_eq_true rfl, Nat.le_of_ble_eq_true rfl⟩) (fun U g mk a h => ⟨h.1, va_K.moved (u := U) (U := U.calling g mk a) (Vm.Alike.refl U.vm) h.2⟩) (va_recv hK hP (ci := 2) (q0 := 0) rfl rfl) (fun U hU hW => ⟨by rw [hU]; exact hP, va_K.moved hW.alike hK⟩) rfl hl.1 rfl (lv_room (Nat.le_of_ble_eq_true rfl)) d_C_forge_2 ⟨Nat.zero_le _, Nat.zero_le _⟩ ?_
  refine lv_aload_n hx hb d_C_forge_5 rfl (lv_at hl 0 rfl) ?_
  refine lv_iload_n hx hb d_C_forge_6 rfl (lv_at hl 1 rfl) ?_
  refine rv_V (As := [.int k1]) (rest := []) (b := (Z 0)) ⟨hx, hb, hml, hown, hts⟩ (c_C_demandCoefficient l dC dI Z cI cP p0 q0 g0 h0 S k1 hcf) (cwV 1 hts (al_V k_285 k_286 k_638 k_1 k_287) rfl rfl rfl (by decide +kernel) ⟨Nat.le_of_ble_eq_true rfl, Nat.le_of_ble_eq_true rfl⟩) (fun U g mk a h => ⟨h.1, va_K.moved (u := U) (U := U.calling g mk a) (Vm.Alike.refl U.vm) h.2⟩) (va_recv hK hP (ci := 2) (q0 := 0) rfl rfl) (fun U hU hW => ⟨by rw [hU]; exact hP, va_K.moved hW.alike hK⟩) rfl hl.1 rfl (lv_room (Nat.le_of_ble_eq_true rfl)) d_C_forge_7 ⟨Nat.zero_le _, Nat.zero_le _⟩ ?_
  refine lv_iload_n hx hb d_C_forge_10 rfl (lv_at hl 2 rfl) ?_
  refine lv_iconst (v := 1) hx hb d_C_forge_11 (by decide) ?_
  refine lv_icmp_lt (tgt := 26) hx hb d_C_forge_12 (by decide) (fun c12 => ?_) (fun c12 => ?_)
  · exact tx_throw (tx := "a commitment is 1 .. p - 1") hx hb hlt hemp hlk (hl.1.trans hml.symm) hown (by decide +kernel) hts xg_IAE xn_IAE (by decide +kernel) k_204 k_8 hxx (by decide +kernel) (by decide +kernel) d_C_forge_26 d_C_forge_29 d_C_forge_30 d_C_forge_32 d_C_forge_35 (Nat.le_of_ble_eq_true rfl) (Nat.le_of_ble_eq_true rfl) (Nat.le_of_ble_eq_true rfl) (Nat.le_of_ble_eq_true rfl)
  · refine lv_iload_n hx hb d_C_forge_15 rfl (lv_at hl 2 rfl) ?_
    refine lv_aload_n hx hb d_C_forge_16 rfl (lv_at hl 0 rfl) ?_
    refine va_get (D := (dC, dI)) (ci := 2) (v := .ref (Z 1)) (C := "DealtSecret") (T := T_C) (N := 11) hx hb hts i_C hown hK hP 0 rfl rfl 0 (by decide) (hts _ k_101) (fun _ h9 => h9) rfl d_C_forge_17 ?_
    refine va_get (D := (dC, dI)) (ci := 0) (v := .int (nI p0)) (C := "DealtSecret$Group") (T := T_G) (N := 4) hx hb hts i_G hown hK hP 1 rfl rfl 0 (by decide) (hts _ k_43) (fun _ h9 => h9) rfl d_C_forge_20 ?_
    refine lv_icmp_lt (tgt := 36) hx hb d_C_forge_23 (by decide) (fun c_ => absurd c_ (hbad.resolve_left c12)) (fun _ => ?_)
    exact tx_throw (tx := "a commitment is 1 .. p - 1") hx hb hlt hemp hlk (hl.1.trans hml.symm) hown (by decide +kernel) hts xg_IAE xn_IAE (by decide +kernel) k_204 k_8 hxx (by decide +kernel) (by decide +kernel) d_C_forge_26 d_C_forge_29 d_C_forge_30 d_C_forge_32 d_C_forge_35 (Nat.le_of_ble_eq_true rfl) (Nat.le_of_ble_eq_true rfl) (Nat.le_of_ble_eq_true rfl) (Nat.le_of_ble_eq_true rfl)
set_option maxRecDepth 100000 in
set_option maxHeartbeats 4000000 in
/-- accuse in another stage -/
theorem t_C_accuse_st (l : Launch) (hlt : l.stackTraces = false) (dC : Nat → ClassId) (dI : Nat → Nat → Nat) (Z : Nat → Nat) (cI cP : ClassId) (p0 q0 g0 h0 : Nat) (S : Nat → Nat → Int32) (i1 : Int32) (hne : ¬ S 0 0 = 3) : Tc l y_C_accuse ws_C_accuse 7 103 [.ref (Z 0), .int i1] (bX dC dI Z cI cP p0 q0 g0 h0 S) "java/lang/IllegalStateException" := by
  refine vx_ofW (cc := b_C_accuse) (maxL := 3) (ret := (some .boolean)) (by decide) rfl ?_
  intro p e s m args below meth c s₁ B hml hemp hv
  obtain ⟨rfl, ⟨hP, hK⟩, hxx⟩ := hv
  have hx := B.exec
  have hb := B.bytes
  have hr := B.returns
  have hts : ∀ w ∈ AL, w.before ([.ref (Z 0), .int i1] : List Value).toArray s = true := fun w h => atoms_spec (ws := ws_C_accuse) B.pre w (List.mem_cons_of_mem _ h)
  have hown : s.vm.findClass "DealtSecret" = some m.cls := findClass_of_methodNamed B.named
  have hlk := B.notSynchronized
  have hl := lv_entry ([.ref (Z 0), .int i1]) (n := 3) (Nat.le_of_ble_eq_true rfl)
  rw [lg_entry_eq]
  generalize (lg_sl ([.ref (Z 0), .int i1]) ++ List.replicate (3 - (lg_sl ([.ref (Z 0), .int i1])).length) Slot.unset).toArray = ls at hl ⊢
  have hl : lv_has ls 3 [(0, .ref (Z 0)), (1, .int i1)] := hl
  refine lv_aload_n hx hb d_C_accuse_0 rfl (lv_at hl 0 rfl) ?_
  refine lv_iconst (v := 3) hx hb d_C_accuse_1 (by decide) ?_
  exact tx_passV (As := [.int 3]) (rest := []) (b := (Z 0)) ⟨hx, hb, hml, hown, hts⟩ (t_C_demandStage l hlt dC dI Z cI cP p0 q0 g0 h0 S 3 hne) (cwV 1 hts (al_V k_269 k_270 k_637 k_1 k_271) rfl rfl rfl (by decide +kernel) ⟨Nat.le_of_ble_eq_true rfl, Nat.le_of_ble_eq_true rfl⟩) (fun U g mk a h => ⟨⟨h.1.1, va_K.moved (u := U) (U := U.calling g mk a) (Vm.Alike.refl U.vm) h.1.2⟩, xx_bl g mk a h.2⟩) (va_recv hK hP (ci := 2) (q0 := 0) rfl rfl) (fun U hU hW => ⟨⟨by rw [hU]; exact hP, va_K.moved hW.alike hK⟩, xx_to hW (fun a _ => by rw [hU]) hxx⟩) rfl hl.1 rfl (lv_room (Nat.le_of_ble_eq_true rfl)) d_C_accuse_2 ⟨Nat.le_of_ble_eq_true rfl, Nat.le_of_ble_eq_true rfl⟩ hemp hlk
set_option maxRecDepth 100000 in
set_option maxHeartbeats 4000000 in
/-- accuse of nobody -/
theorem t_C_accuse_pt (l : Launch) (hlt : l.stackTraces = false) (dC : Nat → ClassId) (dI : Nat → Nat → Nat) (Z : Nat → Nat) (cI cP : ClassId) (p0 q0 g0 h0 : Nat) (S : Nat → Nat → Int32) (i1 : Int32) (hst : S 0 0 = 3) (hne : ¬ isPt (S 0 1) i1) : Tc l y_C_accuse ws_C_accuse 7 103 [.ref (Z 0), .int i1] (bX dC dI Z cI cP p0 q0 g0 h0 S) "java/lang/IllegalArgumentException" := by
  refine vx_ofW (cc := b_C_accuse) (maxL := 3) (ret := (some .boolean)) (by decide) rfl ?_
  intro p e s m args below meth c s₁ B hml hemp hv
  obtain ⟨rfl, ⟨hP, hK⟩, hxx⟩ := hv
  have hx := B.exec
  have hb := B.bytes
  have hr := B.returns
  have hts : ∀ w ∈ AL, w.before ([.ref (Z 0), .int i1] : List Value).toArray s = true := fun w h => atoms_spec (ws := ws_C_accuse) B.pre w (List.mem_cons_of_mem _ h)
  have hown : s.vm.findClass "DealtSecret" = some m.cls := findClass_of_methodNamed B.named
  have hlk := B.notSynchronized
  have hl := lv_entry ([.ref (Z 0), .int i1]) (n := 3) (Nat.le_of_ble_eq_true rfl)
  rw [lg_entry_eq]
  generalize (lg_sl ([.ref (Z 0), .int i1]) ++ List.replicate (3 - (lg_sl ([.ref (Z 0), .int i1])).length) Slot.unset).toArray = ls at hl ⊢
  have hl : lv_has ls 3 [(0, .ref (Z 0)), (1, .int i1)] := hl
  refine lv_aload_n hx hb d_C_accuse_0 rfl (lv_at hl 0 rfl) ?_
  refine lv_iconst (v := 3) hx hb d_C_accuse_1 (by decide) ?_
  refine rv_V (As := [.int 3]) (rest := []) (b := (Z 0)) ⟨hx, hb, hml, hown, hts⟩ (c_C_demandStage l dC dI Z cI cP p0 q0 g0 h0 S 3 hst) (cwV 1 hts (al_V k_269 k_270 k_637 k_1 k_271) rfl rfl rfl (by decide +kernel) ⟨Nat.le_of_ble_eq_true rfl, Nat.le_of_ble_eq_true rfl⟩) (fun U g mk a h => ⟨h.1, va_K.moved (u := U) (U := U.calling g mk a) (Vm.Alike.refl U.vm) h.2⟩) (va_recv hK hP (ci := 2) (q0 := 0) rfl rfl) (fun U hU hW => ⟨by rw [hU]; exact hP, va_K.moved hW.alike hK⟩) rfl hl.1 rfl (lv_room (Nat.le_of_ble_eq_true rfl)) d_C_accuse_2 ⟨Nat.zero_le _, Nat.zero_le _⟩ ?_
  refine lv_aload_n hx hb d_C_accuse_5 rfl (lv_at hl 0 rfl) ?_
  refine lv_iload_n hx hb d_C_accuse_6 rfl (lv_at hl 1 rfl) ?_
  exact tx_passV (As := [.int i1]) (rest := []) (b := (Z 0)) ⟨hx, hb, hml, hown, hts⟩ (t_C_demandParticipant l hlt dC dI Z cI cP p0 q0 g0 h0 S i1 hne) (cwV 1 hts (al_V k_338 k_339 k_645 k_1 k_340) rfl rfl rfl (by decide +kernel) ⟨Nat.le_of_ble_eq_true rfl, Nat.le_of_ble_eq_true rfl⟩) (fun U g mk a h => ⟨⟨h.1.1, va_K.moved (u := U) (U := U.calling g mk a) (Vm.Alike.refl U.vm) h.1.2⟩, xx_bl g mk a h.2⟩) (va_recv hK hP (ci := 2) (q0 := 0) rfl rfl) (fun U hU hW => ⟨⟨by rw [hU]; exact hP, va_K.moved hW.alike hK⟩, xx_to hW (fun a _ => by rw [hU]) hxx⟩) rfl hl.1 rfl (lv_room (Nat.le_of_ble_eq_true rfl)) d_C_accuse_7 ⟨Nat.le_of_ble_eq_true rfl, Nat.le_of_ble_eq_true rfl⟩ hemp hlk
set_option maxRecDepth 100000 in
set_option maxHeartbeats 4000000 in
/-- answer in another stage -/
theorem t_C_answer_st (l : Launch) (hlt : l.stackTraces = false) (dC : Nat → ClassId) (dI : Nat → Nat → Nat) (Z : Nat → Nat) (cI cP : ClassId) (p0 q0 g0 h0 : Nat) (S : Nat → Nat → Int32) (i1 x1 y1 : Int32) (hne : ¬ S 0 0 = 4) : Tc l y_C_answer ws_C_answer 7 103 [.ref (Z 0), .int i1, .int x1, .int y1] (bX dC dI Z cI cP p0 q0 g0 h0 S) "java/lang/IllegalStateException" := by
  refine vx_ofW (cc := b_C_answer) (maxL := 5) (ret := (some .boolean)) (by decide) rfl ?_
  intro p e s m args below meth c s₁ B hml hemp hv
  obtain ⟨rfl, ⟨hP, hK⟩, hxx⟩ := hv
  have hx := B.exec
  have hb := B.bytes
  have hr := B.returns
  have hts : ∀ w ∈ AL, w.before ([.ref (Z 0), .int i1, .int x1, .int y1] : List Value).toArray s = true := fun w h => atoms_spec (ws := ws_C_answer) B.pre w (List.mem_cons_of_mem _ h)
  have hown : s.vm.findClass "DealtSecret" = some m.cls := findClass_of_methodNamed B.named
  have hlk := B.notSynchronized
  have hl := lv_entry ([.ref (Z 0), .int i1, .int x1, .int y1]) (n := 5) (Nat.le_of_ble_eq_true rfl)
  rw [lg_entry_eq]
  generalize (lg_sl ([.ref (Z 0), .int i1, .int x1, .int y1]) ++ List.replicate (5 - (lg_sl ([.ref (Z 0), .int i1, .int x1, .int y1])).length) Slot.unset).toArray = ls at hl ⊢
  have hl : lv_has ls 5 [(0, .ref (Z 0)), (1, .int i1), (2, .int x1), (3, .int y1)] := hl
  refine lv_aload_n hx hb d_C_answer_0 rfl (lv_at hl 0 rfl) ?_
  refine lv_iconst (v := 4) hx hb d_C_answer_1 (by decide) ?_
  exact tx_passV (As := [.int 4]) (rest := []) (b := (Z 0)) ⟨hx, hb, hml, hown, hts⟩ (t_C_demandStage l hlt dC dI Z cI cP p0 q0 g0 h0 S 4 hne) (cwV 1 hts (al_V k_269 k_270 k_637 k_1 k_271) rfl rfl rfl (by decide +kernel) ⟨Nat.le_of_ble_eq_true rfl, Nat.le_of_ble_eq_true rfl⟩) (fun U g mk a h => ⟨⟨h.1.1, va_K.moved (u := U) (U := U.calling g mk a) (Vm.Alike.refl U.vm) h.1.2⟩, xx_bl g mk a h.2⟩) (va_recv hK hP (ci := 2) (q0 := 0) rfl rfl) (fun U hU hW => ⟨⟨by rw [hU]; exact hP, va_K.moved hW.alike hK⟩, xx_to hW (fun a _ => by rw [hU]) hxx⟩) rfl hl.1 rfl (lv_room (Nat.le_of_ble_eq_true rfl)) d_C_answer_2 ⟨Nat.le_of_ble_eq_true rfl, Nat.le_of_ble_eq_true rfl⟩ hemp hlk
set_option maxRecDepth 100000 in
set_option maxHeartbeats 4000000 in
/-- answer of nobody -/
theorem t_C_answer_pt (l : Launch) (hlt : l.stackTraces = false) (dC : Nat → ClassId) (dI : Nat → Nat → Nat) (Z : Nat → Nat) (cI cP : ClassId) (p0 q0 g0 h0 : Nat) (S : Nat → Nat → Int32) (i1 x1 y1 : Int32) (hst : S 0 0 = 4) (hne : ¬ isPt (S 0 1) i1) : Tc l y_C_answer ws_C_answer 7 103 [.ref (Z 0), .int i1, .int x1, .int y1] (bX dC dI Z cI cP p0 q0 g0 h0 S) "java/lang/IllegalArgumentException" := by
  refine vx_ofW (cc := b_C_answer) (maxL := 5) (ret := (some .boolean)) (by decide) rfl ?_
  intro p e s m args below meth c s₁ B hml hemp hv
  obtain ⟨rfl, ⟨hP, hK⟩, hxx⟩ := hv
  have hx := B.exec
  have hb := B.bytes
  have hr := B.returns
  have hts : ∀ w ∈ AL, w.before ([.ref (Z 0), .int i1, .int x1, .int y1] : List Value).toArray s = true := fun w h => atoms_spec (ws := ws_C_answer) B.pre w (List.mem_cons_of_mem _ h)
  have hown : s.vm.findClass "DealtSecret" = some m.cls := findClass_of_methodNamed B.named
  have hlk := B.notSynchronized
  have hl := lv_entry ([.ref (Z 0), .int i1, .int x1, .int y1]) (n := 5) (Nat.le_of_ble_eq_true rfl)
  rw [lg_entry_eq]
  generalize (lg_sl ([.ref (Z 0), .int i1, .int x1, .int y1]) ++ List.replicate (5 - (lg_sl ([.ref (Z 0), .int i1, .int x1, .int y1])).length) Slot.unset).toArray = ls at hl ⊢
  have hl : lv_has ls 5 [(0, .ref (Z 0)), (1, .int i1), (2, .int x1), (3, .int y1)] := hl
  refine lv_aload_n hx hb d_C_answer_0 rfl (lv_at hl 0 rfl) ?_
  refine lv_iconst (v := 4) hx hb d_C_answer_1 (by decide) ?_
  refine rv_V (As := [.int 4]) (rest := []) (b := (Z 0)) ⟨hx, hb, hml, hown, hts⟩ (c_C_demandStage l dC dI Z cI cP p0 q0 g0 h0 S 4 hst) (cwV 1 hts (al_V k_269 k_270 k_637 k_1 k_271) rfl rfl rfl (by decide +kernel) ⟨Nat.le_of_ble_eq_true rfl, Nat.le_of_ble_eq_true rfl⟩) (fun U g mk a h => ⟨h.1, va_K.moved (u := U) (U := U.calling g mk a) (Vm.Alike.refl U.vm) h.2⟩) (va_recv hK hP (ci := 2) (q0 := 0) rfl rfl) (fun U hU hW => ⟨by rw [hU]; exact hP, va_K.moved hW.alike hK⟩) rfl hl.1 rfl (lv_room (Nat.le_of_ble_eq_true rfl)) d_C_answer_2 ⟨Nat.zero_le _, Nat.zero_le _⟩ ?_
  refine lv_aload_n hx hb d_C_answer_5 rfl (lv_at hl 0 rfl) ?_
  refine lv_iload_n hx hb d_C_answer_6 rfl (lv_at hl 1 rfl) ?_
  exact tx_passV (As := [.int i1]) (rest := []) (b := (Z 0)) ⟨hx, hb, hml, hown, hts⟩ (t_C_demandParticipant l hlt dC dI Z cI cP p0 q0 g0 h0 S i1 hne) (cwV 1 hts (al_V k_338 k_339 k_645 k_1 k_340) rfl rfl rfl (by decide +kernel) ⟨Nat.le_of_ble_eq_true rfl, Nat.le_of_ble_eq_true rfl⟩) (fun U g mk a h => ⟨⟨h.1.1, va_K.moved (u := U) (U := U.calling g mk a) (Vm.Alike.refl U.vm) h.1.2⟩, xx_bl g mk a h.2⟩) (va_recv hK hP (ci := 2) (q0 := 0) rfl rfl) (fun U hU hW => ⟨⟨by rw [hU]; exact hP, va_K.moved hW.alike hK⟩, xx_to hW (fun a _ => by rw [hU]) hxx⟩) rfl hl.1 rfl (lv_room (Nat.le_of_ble_eq_true rfl)) d_C_answer_7 ⟨Nat.le_of_ble_eq_true rfl, Nat.le_of_ble_eq_true rfl⟩ hemp hlk
set_option maxRecDepth 100000 in
set_option maxHeartbeats 4000000 in
/-- opening in another stage -/
theorem t_C_open_st (l : Launch) (hlt : l.stackTraces = false) (dC : Nat → ClassId) (dI : Nat → Nat → Nat) (Z : Nat → Nat) (cI cP : ClassId) (p0 q0 g0 h0 : Nat) (S : Nat → Nat → Int32) (i1 : Int32) (hne : ¬ S 0 0 = 5) : Tc l y_C_open ws_C_open 7 103 [.ref (Z 0), .int i1] (bX dC dI Z cI cP p0 q0 g0 h0 S) "java/lang/IllegalStateException" := by
  refine vx_ofW (cc := b_C_open) (maxL := 3) (ret := (some .boolean)) (by decide) rfl ?_
  intro p e s m args below meth c s₁ B hml hemp hv
  obtain ⟨rfl, ⟨hP, hK⟩, hxx⟩ := hv
  have hx := B.exec
  have hb := B.bytes
  have hr := B.returns
  have hts : ∀ w ∈ AL, w.before ([.ref (Z 0), .int i1] : List Value).toArray s = true := fun w h => atoms_spec (ws := ws_C_open) B.pre w (List.mem_cons_of_mem _ h)
  have hown : s.vm.findClass "DealtSecret" = some m.cls := findClass_of_methodNamed B.named
  have hlk := B.notSynchronized
  have hl := lv_entry ([.ref (Z 0), .int i1]) (n := 3) (Nat.le_of_ble_eq_true rfl)
  rw [lg_entry_eq]
  generalize (lg_sl ([.ref (Z 0), .int i1]) ++ List.replicate (3 - (lg_sl ([.ref (Z 0), .int i1])).length) Slot.unset).toArray = ls at hl ⊢
  have hl : lv_has ls 3 [(0, .ref (Z 0)), (1, .int i1)] := hl
  refine lv_aload_n hx hb d_C_open_0 rfl (lv_at hl 0 rfl) ?_
  refine lv_iconst (v := 5) hx hb d_C_open_1 (by decide) ?_
  exact tx_passV (As := [.int 5]) (rest := []) (b := (Z 0)) ⟨hx, hb, hml, hown, hts⟩ (t_C_demandStage l hlt dC dI Z cI cP p0 q0 g0 h0 S 5 hne) (cwV 1 hts (al_V k_269 k_270 k_637 k_1 k_271) rfl rfl rfl (by decide +kernel) ⟨Nat.le_of_ble_eq_true rfl, Nat.le_of_ble_eq_true rfl⟩) (fun U g mk a h => ⟨⟨h.1.1, va_K.moved (u := U) (U := U.calling g mk a) (Vm.Alike.refl U.vm) h.1.2⟩, xx_bl g mk a h.2⟩) (va_recv hK hP (ci := 2) (q0 := 0) rfl rfl) (fun U hU hW => ⟨⟨by rw [hU]; exact hP, va_K.moved hW.alike hK⟩, xx_to hW (fun a _ => by rw [hU]) hxx⟩) rfl hl.1 rfl (lv_room (Nat.le_of_ble_eq_true rfl)) d_C_open_2 ⟨Nat.le_of_ble_eq_true rfl, Nat.le_of_ble_eq_true rfl⟩ hemp hlk
set_option maxRecDepth 100000 in
set_option maxHeartbeats 4000000 in
/-- opening of nobody -/
theorem t_C_open_pt (l : Launch) (hlt : l.stackTraces = false) (dC : Nat → ClassId) (dI : Nat → Nat → Nat) (Z : Nat → Nat) (cI cP : ClassId) (p0 q0 g0 h0 : Nat) (S : Nat → Nat → Int32) (i1 : Int32) (hst : S 0 0 = 5) (hne : ¬ isPt (S 0 1) i1) : Tc l y_C_open ws_C_open 7 103 [.ref (Z 0), .int i1] (bX dC dI Z cI cP p0 q0 g0 h0 S) "java/lang/IllegalArgumentException" := by
  refine vx_ofW (cc := b_C_open) (maxL := 3) (ret := (some .boolean)) (by decide) rfl ?_
  intro p e s m args below meth c s₁ B hml hemp hv
  obtain ⟨rfl, ⟨hP, hK⟩, hxx⟩ := hv
  have hx := B.exec
  have hb := B.bytes
  have hr := B.returns
  have hts : ∀ w ∈ AL, w.before ([.ref (Z 0), .int i1] : List Value).toArray s = true := fun w h => atoms_spec (ws := ws_C_open) B.pre w (List.mem_cons_of_mem _ h)
  have hown : s.vm.findClass "DealtSecret" = some m.cls := findClass_of_methodNamed B.named
  have hlk := B.notSynchronized
  have hl := lv_entry ([.ref (Z 0), .int i1]) (n := 3) (Nat.le_of_ble_eq_true rfl)
  rw [lg_entry_eq]
  generalize (lg_sl ([.ref (Z 0), .int i1]) ++ List.replicate (3 - (lg_sl ([.ref (Z 0), .int i1])).length) Slot.unset).toArray = ls at hl ⊢
  have hl : lv_has ls 3 [(0, .ref (Z 0)), (1, .int i1)] := hl
  refine lv_aload_n hx hb d_C_open_0 rfl (lv_at hl 0 rfl) ?_
  refine lv_iconst (v := 5) hx hb d_C_open_1 (by decide) ?_
  refine rv_V (As := [.int 5]) (rest := []) (b := (Z 0)) ⟨hx, hb, hml, hown, hts⟩ (c_C_demandStage l dC dI Z cI cP p0 q0 g0 h0 S 5 hst) (cwV 1 hts (al_V k_269 k_270 k_637 k_1 k_271) rfl rfl rfl (by decide +kernel) ⟨Nat.le_of_ble_eq_true rfl, Nat.le_of_ble_eq_true rfl⟩) (fun U g mk a h => ⟨h.1, va_K.moved (u := U) (U := U.calling g mk a) (Vm.Alike.refl U.vm) h.2⟩) (va_recv hK hP (ci := 2) (q0 := 0) rfl rfl) (fun U hU hW => ⟨by rw [hU]; exact hP, va_K.moved hW.alike hK⟩) rfl hl.1 rfl (lv_room (Nat.le_of_ble_eq_true rfl)) d_C_open_2 ⟨Nat.zero_le _, Nat.zero_le _⟩ ?_
  refine lv_aload_n hx hb d_C_open_5 rfl (lv_at hl 0 rfl) ?_
  refine lv_iload_n hx hb d_C_open_6 rfl (lv_at hl 1 rfl) ?_
  exact tx_passV (As := [.int i1]) (rest := []) (b := (Z 0)) ⟨hx, hb, hml, hown, hts⟩ (t_C_demandParticipant l hlt dC dI Z cI cP p0 q0 g0 h0 S i1 hne) (cwV 1 hts (al_V k_338 k_339 k_645 k_1 k_340) rfl rfl rfl (by decide +kernel) ⟨Nat.le_of_ble_eq_true rfl, Nat.le_of_ble_eq_true rfl⟩) (fun U g mk a h => ⟨⟨h.1.1, va_K.moved (u := U) (U := U.calling g mk a) (Vm.Alike.refl U.vm) h.1.2⟩, xx_bl g mk a h.2⟩) (va_recv hK hP (ci := 2) (q0 := 0) rfl rfl) (fun U hU hW => ⟨⟨by rw [hU]; exact hP, va_K.moved hW.alike hK⟩, xx_to hW (fun a _ => by rw [hU]) hxx⟩) rfl hl.1 rfl (lv_room (Nat.le_of_ble_eq_true rfl)) d_C_open_7 ⟨Nat.le_of_ble_eq_true rfl, Nat.le_of_ble_eq_true rfl⟩ hemp hlk
set_option maxRecDepth 100000 in
set_option maxHeartbeats 4000000 in
/-- show in another stage -/
theorem t_C_show_st (l : Launch) (hlt : l.stackTraces = false) (dC : Nat → ClassId) (dI : Nat → Nat → Nat) (Z : Nat → Nat) (cI cP : ClassId) (p0 q0 g0 h0 : Nat) (S : Nat → Nat → Int32) (i1 x1 y1 : Int32) (hne : ¬ S 0 0 = 5) : Tc l y_C_show ws_C_show 7 103 [.ref (Z 0), .int i1, .int x1, .int y1] (bX dC dI Z cI cP p0 q0 g0 h0 S) "java/lang/IllegalStateException" := by
  refine vx_ofW (cc := b_C_show) (maxL := 4) (ret := (some .boolean)) (by decide) rfl ?_
  intro p e s m args below meth c s₁ B hml hemp hv
  obtain ⟨rfl, ⟨hP, hK⟩, hxx⟩ := hv
  have hx := B.exec
  have hb := B.bytes
  have hr := B.returns
  have hts : ∀ w ∈ AL, w.before ([.ref (Z 0), .int i1, .int x1, .int y1] : List Value).toArray s = true := fun w h => atoms_spec (ws := ws_C_show) B.pre w (List.mem_cons_of_mem _ h)
  have hown : s.vm.findClass "DealtSecret" = some m.cls := findClass_of_methodNamed B.named
  have hlk := B.notSynchronized
  have hl := lv_entry ([.ref (Z 0), .int i1, .int x1, .int y1]) (n := 4) (Nat.le_of_ble_eq_true rfl)
  rw [lg_entry_eq]
  generalize (lg_sl ([.ref (Z 0), .int i1, .int x1, .int y1]) ++ List.replicate (4 - (lg_sl ([.ref (Z 0), .int i1, .int x1, .int y1])).length) Slot.unset).toArray = ls at hl ⊢
  have hl : lv_has ls 4 [(0, .ref (Z 0)), (1, .int i1), (2, .int x1), (3, .int y1)] := hl
  refine lv_aload_n hx hb d_C_show_0 rfl (lv_at hl 0 rfl) ?_
  refine lv_iconst (v := 5) hx hb d_C_show_1 (by decide) ?_
  exact tx_passV (As := [.int 5]) (rest := []) (b := (Z 0)) ⟨hx, hb, hml, hown, hts⟩ (t_C_demandStage l hlt dC dI Z cI cP p0 q0 g0 h0 S 5 hne) (cwV 1 hts (al_V k_269 k_270 k_637 k_1 k_271) rfl rfl rfl (by decide +kernel) ⟨Nat.le_of_ble_eq_true rfl, Nat.le_of_ble_eq_true rfl⟩) (fun U g mk a h => ⟨⟨h.1.1, va_K.moved (u := U) (U := U.calling g mk a) (Vm.Alike.refl U.vm) h.1.2⟩, xx_bl g mk a h.2⟩) (va_recv hK hP (ci := 2) (q0 := 0) rfl rfl) (fun U hU hW => ⟨⟨by rw [hU]; exact hP, va_K.moved hW.alike hK⟩, xx_to hW (fun a _ => by rw [hU]) hxx⟩) rfl hl.1 rfl (lv_room (Nat.le_of_ble_eq_true rfl)) d_C_show_2 ⟨Nat.le_of_ble_eq_true rfl, Nat.le_of_ble_eq_true rfl⟩ hemp hlk
set_option maxRecDepth 100000 in
set_option maxHeartbeats 4000000 in
/-- show of nobody -/
theorem t_C_show_pt (l : Launch) (hlt : l.stackTraces = false) (dC : Nat → ClassId) (dI : Nat → Nat → Nat) (Z : Nat → Nat) (cI cP : ClassId) (p0 q0 g0 h0 : Nat) (S : Nat → Nat → Int32) (i1 x1 y1 : Int32) (hst : S 0 0 = 5) (hne : ¬ isPt (S 0 1) i1) : Tc l y_C_show ws_C_show 7 103 [.ref (Z 0), .int i1, .int x1, .int y1] (bX dC dI Z cI cP p0 q0 g0 h0 S) "java/lang/IllegalArgumentException" := by
  refine vx_ofW (cc := b_C_show) (maxL := 4) (ret := (some .boolean)) (by decide) rfl ?_
  intro p e s m args below meth c s₁ B hml hemp hv
  obtain ⟨rfl, ⟨hP, hK⟩, hxx⟩ := hv
  have hx := B.exec
  have hb := B.bytes
  have hr := B.returns
  have hts : ∀ w ∈ AL, w.before ([.ref (Z 0), .int i1, .int x1, .int y1] : List Value).toArray s = true := fun w h => atoms_spec (ws := ws_C_show) B.pre w (List.mem_cons_of_mem _ h)
  have hown : s.vm.findClass "DealtSecret" = some m.cls := findClass_of_methodNamed B.named
  have hlk := B.notSynchronized
  have hl := lv_entry ([.ref (Z 0), .int i1, .int x1, .int y1]) (n := 4) (Nat.le_of_ble_eq_true rfl)
  rw [lg_entry_eq]
  generalize (lg_sl ([.ref (Z 0), .int i1, .int x1, .int y1]) ++ List.replicate (4 - (lg_sl ([.ref (Z 0), .int i1, .int x1, .int y1])).length) Slot.unset).toArray = ls at hl ⊢
  have hl : lv_has ls 4 [(0, .ref (Z 0)), (1, .int i1), (2, .int x1), (3, .int y1)] := hl
  refine lv_aload_n hx hb d_C_show_0 rfl (lv_at hl 0 rfl) ?_
  refine lv_iconst (v := 5) hx hb d_C_show_1 (by decide) ?_
  refine rv_V (As := [.int 5]) (rest := []) (b := (Z 0)) ⟨hx, hb, hml, hown, hts⟩ (c_C_demandStage l dC dI Z cI cP p0 q0 g0 h0 S 5 hst) (cwV 1 hts (al_V k_269 k_270 k_637 k_1 k_271) rfl rfl rfl (by decide +kernel) ⟨Nat.le_of_ble_eq_true rfl, Nat.le_of_ble_eq_true rfl⟩) (fun U g mk a h => ⟨h.1, va_K.moved (u := U) (U := U.calling g mk a) (Vm.Alike.refl U.vm) h.2⟩) (va_recv hK hP (ci := 2) (q0 := 0) rfl rfl) (fun U hU hW => ⟨by rw [hU]; exact hP, va_K.moved hW.alike hK⟩) rfl hl.1 rfl (lv_room (Nat.le_of_ble_eq_true rfl)) d_C_show_2 ⟨Nat.zero_le _, Nat.zero_le _⟩ ?_
  refine lv_aload_n hx hb d_C_show_5 rfl (lv_at hl 0 rfl) ?_
  refine lv_iload_n hx hb d_C_show_6 rfl (lv_at hl 1 rfl) ?_
  exact tx_passV (As := [.int i1]) (rest := []) (b := (Z 0)) ⟨hx, hb, hml, hown, hts⟩ (t_C_demandParticipant l hlt dC dI Z cI cP p0 q0 g0 h0 S i1 hne) (cwV 1 hts (al_V k_338 k_339 k_645 k_1 k_340) rfl rfl rfl (by decide +kernel) ⟨Nat.le_of_ble_eq_true rfl, Nat.le_of_ble_eq_true rfl⟩) (fun U g mk a h => ⟨⟨h.1.1, va_K.moved (u := U) (U := U.calling g mk a) (Vm.Alike.refl U.vm) h.1.2⟩, xx_bl g mk a h.2⟩) (va_recv hK hP (ci := 2) (q0 := 0) rfl rfl) (fun U hU hW => ⟨⟨by rw [hU]; exact hP, va_K.moved hW.alike hK⟩, xx_to hW (fun a _ => by rw [hU]) hxx⟩) rfl hl.1 rfl (lv_room (Nat.le_of_ble_eq_true rfl)) d_C_show_7 ⟨Nat.le_of_ble_eq_true rfl, Nat.le_of_ble_eq_true rfl⟩ hemp hlk
set_option maxRecDepth 100000 in
set_option maxHeartbeats 4000000 in
/-- secret in another stage -/
theorem t_C_secret_st (l : Launch) (hlt : l.stackTraces = false) (dC : Nat → ClassId) (dI : Nat → Nat → Nat) (Z : Nat → Nat) (cI cP : ClassId) (p0 q0 g0 h0 : Nat) (S : Nat → Nat → Int32) (hne : ¬ S 0 0 = 5) : Tc l y_C_secret ws_C_secret 7 103 [.ref (Z 0)] (bX dC dI Z cI cP p0 q0 g0 h0 S) "java/lang/IllegalStateException" := by
  refine vx_ofW (cc := b_C_secret) (maxL := 5) (ret := (some .int)) (by decide) rfl ?_
  intro p e s m args below meth c s₁ B hml hemp hv
  obtain ⟨rfl, ⟨hP, hK⟩, hxx⟩ := hv
  have hx := B.exec
  have hb := B.bytes
  have hr := B.returns
  have hts : ∀ w ∈ AL, w.before ([.ref (Z 0)] : List Value).toArray s = true := fun w h => atoms_spec (ws := ws_C_secret) B.pre w (List.mem_cons_of_mem _ h)
  have hown : s.vm.findClass "DealtSecret" = some m.cls := findClass_of_methodNamed B.named
  have hlk := B.notSynchronized
  have hl := lv_entry ([.ref (Z 0)]) (n := 5) (Nat.le_of_ble_eq_true rfl)
  rw [lg_entry_eq]
  generalize (lg_sl ([.ref (Z 0)]) ++ List.replicate (5 - (lg_sl ([.ref (Z 0)])).length) Slot.unset).toArray = ls at hl ⊢
  have hl : lv_has ls 5 [(0, .ref (Z 0))] := hl
  refine lv_aload_n hx hb d_C_secret_0 rfl (lv_at hl 0 rfl) ?_
  refine lv_iconst (v := 5) hx hb d_C_secret_1 (by decide) ?_
  exact tx_passV (As := [.int 5]) (rest := []) (b := (Z 0)) ⟨hx, hb, hml, hown, hts⟩ (t_C_demandStage l hlt dC dI Z cI cP p0 q0 g0 h0 S 5 hne) (cwV 1 hts (al_V k_269 k_270 k_637 k_1 k_271) rfl rfl rfl (by decide +kernel) ⟨Nat.le_of_ble_eq_true rfl, Nat.le_of_ble_eq_true rfl⟩) (fun U g mk a h => ⟨⟨h.1.1, va_K.moved (u := U) (U := U.calling g mk a) (Vm.Alike.refl U.vm) h.1.2⟩, xx_bl g mk a h.2⟩) (va_recv hK hP (ci := 2) (q0 := 0) rfl rfl) (fun U hU hW => ⟨⟨by rw [hU]; exact hP, va_K.moved hW.alike hK⟩, xx_to hW (fun a _ => by rw [hU]) hxx⟩) rfl hl.1 rfl (lv_room (Nat.le_of_ble_eq_true rfl)) d_C_secret_2 ⟨Nat.le_of_ble_eq_true rfl, Nat.le_of_ble_eq_true rfl⟩ hemp hlk
set_option maxRecDepth 100000 in
set_option maxHeartbeats 4000000 in
/-- relation in another stage -/
theorem t_C_relation_st (l : Launch) (hlt : l.stackTraces = false) (dC : Nat → ClassId) (dI : Nat → Nat → Nat) (Z : Nat → Nat) (cI cP : ClassId) (p0 q0 g0 h0 : Nat) (S : Nat → Nat → Int32) (hne : ¬ S 0 0 = 5) : Tc l y_C_relation ws_C_relation 7 103 [.ref (Z 0)] (bX dC dI Z cI cP p0 q0 g0 h0 S) "java/lang/IllegalStateException" := by
  refine vx_ofW (cc := b_C_relation) (maxL := 1) (ret := (some .int)) (by decide) rfl ?_
  intro p e s m args below meth c s₁ B hml hemp hv
  obtain ⟨rfl, ⟨hP, hK⟩, hxx⟩ := hv
  have hx := B.exec
  have hb := B.bytes
  have hr := B.returns
  have hts : ∀ w ∈ AL, w.before ([.ref (Z 0)] : List Value).toArray s = true := fun w h => atoms_spec (ws := ws_C_relation) B.pre w (List.mem_cons_of_mem _ h)
  have hown : s.vm.findClass "DealtSecret" = some m.cls := findClass_of_methodNamed B.named
  have hlk := B.notSynchronized
  have hl := lv_entry ([.ref (Z 0)]) (n := 1) (Nat.le_of_ble_eq_true rfl)
  rw [lg_entry_eq]
  generalize (lg_sl ([.ref (Z 0)]) ++ List.replicate (1 - (lg_sl ([.ref (Z 0)])).length) Slot.unset).toArray = ls at hl ⊢
  have hl : lv_has ls 1 [(0, .ref (Z 0))] := hl
  refine lv_aload_n hx hb d_C_relation_0 rfl (lv_at hl 0 rfl) ?_
  refine lv_iconst (v := 5) hx hb d_C_relation_1 (by decide) ?_
  exact tx_passV (As := [.int 5]) (rest := []) (b := (Z 0)) ⟨hx, hb, hml, hown, hts⟩ (t_C_demandStage l hlt dC dI Z cI cP p0 q0 g0 h0 S 5 hne) (cwV 1 hts (al_V k_269 k_270 k_637 k_1 k_271) rfl rfl rfl (by decide +kernel) ⟨Nat.le_of_ble_eq_true rfl, Nat.le_of_ble_eq_true rfl⟩) (fun U g mk a h => ⟨⟨h.1.1, va_K.moved (u := U) (U := U.calling g mk a) (Vm.Alike.refl U.vm) h.1.2⟩, xx_bl g mk a h.2⟩) (va_recv hK hP (ci := 2) (q0 := 0) rfl rfl) (fun U hU hW => ⟨⟨by rw [hU]; exact hP, va_K.moved hW.alike hK⟩, xx_to hW (fun a _ => by rw [hU]) hxx⟩) rfl hl.1 rfl (lv_room (Nat.le_of_ble_eq_true rfl)) d_C_relation_2 ⟨Nat.le_of_ble_eq_true rfl, Nat.le_of_ble_eq_true rfl⟩ hemp hlk
set_option maxRecDepth 100000 in
set_option maxHeartbeats 4000000 in
/-- corrupt in another stage -/
theorem t_C_corrupt_st (l : Launch) (hlt : l.stackTraces = false) (dC : Nat → ClassId) (dI : Nat → Nat → Nat) (Z : Nat → Nat) (cI cP : ClassId) (p0 q0 g0 h0 : Nat) (S : Nat → Nat → Int32) (i1 : Int32) (hne : ¬ S 0 0 = 1 ∧ ¬ S 0 0 = 2) : Tc l y_C_corrupt ws_C_corrupt 7 103 [.ref (Z 0), .int i1] (bX dC dI Z cI cP p0 q0 g0 h0 S) "java/lang/IllegalStateException" := by
  refine vx_ofW (cc := b_C_corrupt) (maxL := 4) (ret := (some .boolean)) (by decide) rfl ?_
  intro p e s m args below meth c s₁ B hml hemp hv
  obtain ⟨rfl, ⟨hP, hK⟩, hxx⟩ := hv
  have hx := B.exec
  have hb := B.bytes
  have hr := B.returns
  have hts : ∀ w ∈ AL, w.before ([.ref (Z 0), .int i1] : List Value).toArray s = true := fun w h => atoms_spec (ws := ws_C_corrupt) B.pre w (List.mem_cons_of_mem _ h)
  have hown : s.vm.findClass "DealtSecret" = some m.cls := findClass_of_methodNamed B.named
  have hlk := B.notSynchronized
  have hl := lv_entry ([.ref (Z 0), .int i1]) (n := 4) (Nat.le_of_ble_eq_true rfl)
  rw [lg_entry_eq]
  generalize (lg_sl ([.ref (Z 0), .int i1]) ++ List.replicate (4 - (lg_sl ([.ref (Z 0), .int i1])).length) Slot.unset).toArray = ls at hl ⊢
  have hl : lv_has ls 4 [(0, .ref (Z 0)), (1, .int i1)] := hl
  refine lv_aload_n hx hb d_C_corrupt_0 rfl (lv_at hl 0 rfl) ?_
  refine va_get (D := (dC, dI)) (ci := 2) (v := .int (S 0 0)) (C := "DealtSecret") (T := T_C) (N := 11) hx hb hts i_C hown hK hP 0 rfl rfl 5 (by decide) (hts _ k_106) (fun _ h9 => h9) rfl d_C_corrupt_1 ?_
  refine lv_iconst (v := 1) hx hb d_C_corrupt_4 (by decide) ?_
  refine lv_icmp_eq (tgt := 26) hx hb d_C_corrupt_5 (by decide) (fun c_ => absurd c_ (hne.1)) (fun _ => ?_)
  refine lv_aload_n hx hb d_C_corrupt_8 rfl (lv_at hl 0 rfl) ?_
  refine va_get (D := (dC, dI)) (ci := 2) (v := .int (S 0 0)) (C := "DealtSecret") (T := T_C) (N := 11) hx hb hts i_C hown hK hP 0 rfl rfl 5 (by decide) (hts _ k_106) (fun _ h9 => h9) rfl d_C_corrupt_9 ?_
  refine lv_iconst (v := 2) hx hb d_C_corrupt_12 (by decide) ?_
  refine lv_icmp_eq (tgt := 26) hx hb d_C_corrupt_13 (by decide) (fun c_ => absurd c_ (hne.2)) (fun _ => ?_)
  exact tx_throw (tx := "the stage is another") hx hb hlt hemp hlk (hl.1.trans hml.symm) hown (by decide +kernel) hts xg_ISE xn_ISE (by decide +kernel) k_272 k_10 hxx (by decide +kernel) (by decide +kernel) d_C_corrupt_16 d_C_corrupt_19 d_C_corrupt_20 d_C_corrupt_22 d_C_corrupt_25 (Nat.le_of_ble_eq_true rfl) (Nat.le_of_ble_eq_true rfl) (Nat.le_of_ble_eq_true rfl) (Nat.le_of_ble_eq_true rfl)
set_option maxRecDepth 100000 in
set_option maxHeartbeats 4000000 in
/-- corrupt of nobody -/
theorem t_C_corrupt_pt (l : Launch) (hlt : l.stackTraces = false) (dC : Nat → ClassId) (dI : Nat → Nat → Nat) (Z : Nat → Nat) (cI cP : ClassId) (p0 q0 g0 h0 : Nat) (S : Nat → Nat → Int32) (i1 : Int32) (hst : S 0 0 = 1 ∨ S 0 0 = 2) (hne : ¬ isPt (S 0 1) i1) : Tc l y_C_corrupt ws_C_corrupt 7 103 [.ref (Z 0), .int i1] (bX dC dI Z cI cP p0 q0 g0 h0 S) "java/lang/IllegalArgumentException" := by
  refine vx_ofW (cc := b_C_corrupt) (maxL := 4) (ret := (some .boolean)) (by decide) rfl ?_
  intro p e s m args below meth c s₁ B hml hemp hv
  obtain ⟨rfl, ⟨hP, hK⟩, hxx⟩ := hv
  have hx := B.exec
  have hb := B.bytes
  have hr := B.returns
  have hts : ∀ w ∈ AL, w.before ([.ref (Z 0), .int i1] : List Value).toArray s = true := fun w h => atoms_spec (ws := ws_C_corrupt) B.pre w (List.mem_cons_of_mem _ h)
  have hown : s.vm.findClass "DealtSecret" = some m.cls := findClass_of_methodNamed B.named
  have hlk := B.notSynchronized
  have hl := lv_entry ([.ref (Z 0), .int i1]) (n := 4) (Nat.le_of_ble_eq_true rfl)
  rw [lg_entry_eq]
  generalize (lg_sl ([.ref (Z 0), .int i1]) ++ List.replicate (4 - (lg_sl ([.ref (Z 0), .int i1])).length) Slot.unset).toArray = ls at hl ⊢
  have hl : lv_has ls 4 [(0, .ref (Z 0)), (1, .int i1)] := hl
  refine lv_aload_n hx hb d_C_corrupt_0 rfl (lv_at hl 0 rfl) ?_
  refine va_get (D := (dC, dI)) (ci := 2) (v := .int (S 0 0)) (C := "DealtSecret") (T := T_C) (N := 11) hx hb hts i_C hown hK hP 0 rfl rfl 5 (by decide) (hts _ k_106) (fun _ h9 => h9) rfl d_C_corrupt_1 ?_
  refine lv_iconst (v := 1) hx hb d_C_corrupt_4 (by decide) ?_
  refine lv_icmp_eq (tgt := 26) hx hb d_C_corrupt_5 (by decide) (fun c5 => ?_) (fun c5 => ?_)
  · refine lv_aload_n hx hb d_C_corrupt_26 rfl (lv_at hl 0 rfl) ?_
    refine lv_iload_n hx hb d_C_corrupt_27 rfl (lv_at hl 1 rfl) ?_
    exact tx_passV (As := [.int i1]) (rest := []) (b := (Z 0)) ⟨hx, hb, hml, hown, hts⟩ (t_C_demandParticipant l hlt dC dI Z cI cP p0 q0 g0 h0 S i1 hne) (cwV 1 hts (al_V k_338 k_339 k_645 k_1 k_340) rfl rfl rfl (by decide +kernel) ⟨Nat.le_of_ble_eq_true rfl, Nat.le_of_ble_eq_true rfl⟩) (fun U g mk a h => ⟨⟨h.1.1, va_K.moved (u := U) (U := U.calling g mk a) (Vm.Alike.refl U.vm) h.1.2⟩, xx_bl g mk a h.2⟩) (va_recv hK hP (ci := 2) (q0 := 0) rfl rfl) (fun U hU hW => ⟨⟨by rw [hU]; exact hP, va_K.moved hW.alike hK⟩, xx_to hW (fun a _ => by rw [hU]) hxx⟩) rfl hl.1 rfl (lv_room (Nat.le_of_ble_eq_true rfl)) d_C_corrupt_28 ⟨Nat.le_of_ble_eq_true rfl, Nat.le_of_ble_eq_true rfl⟩ hemp hlk
  · refine lv_aload_n hx hb d_C_corrupt_8 rfl (lv_at hl 0 rfl) ?_
    refine va_get (D := (dC, dI)) (ci := 2) (v := .int (S 0 0)) (C := "DealtSecret") (T := T_C) (N := 11) hx hb hts i_C hown hK hP 0 rfl rfl 5 (by decide) (hts _ k_106) (fun _ h9 => h9) rfl d_C_corrupt_9 ?_
    refine lv_iconst (v := 2) hx hb d_C_corrupt_12 (by decide) ?_
    refine lv_icmp_eq (tgt := 26) hx hb d_C_corrupt_13 (by decide) (fun _ => ?_) (fun c_ => absurd (hst.elim (fun q => absurd q c5) id) c_)
    refine lv_aload_n hx hb d_C_corrupt_26 rfl (lv_at hl 0 rfl) ?_
    refine lv_iload_n hx hb d_C_corrupt_27 rfl (lv_at hl 1 rfl) ?_
    exact tx_passV (As := [.int i1]) (rest := []) (b := (Z 0)) ⟨hx, hb, hml, hown, hts⟩ (t_C_demandParticipant l hlt dC dI Z cI cP p0 q0 g0 h0 S i1 hne) (cwV 1 hts (al_V k_338 k_339 k_645 k_1 k_340) rfl rfl rfl (by decide +kernel) ⟨Nat.le_of_ble_eq_true rfl, Nat.le_of_ble_eq_true rfl⟩) (fun U g mk a h => ⟨⟨h.1.1, va_K.moved (u := U) (U := U.calling g mk a) (Vm.Alike.refl U.vm) h.1.2⟩, xx_bl g mk a h.2⟩) (va_recv hK hP (ci := 2) (q0 := 0) rfl rfl) (fun U hU hW => ⟨⟨by rw [hU]; exact hP, va_K.moved hW.alike hK⟩, xx_to hW (fun a _ => by rw [hU]) hxx⟩) rfl hl.1 rfl (lv_room (Nat.le_of_ble_eq_true rfl)) d_C_corrupt_28 ⟨Nat.le_of_ble_eq_true rfl, Nat.le_of_ble_eq_true rfl⟩ hemp hlk
set_option maxRecDepth 100000 in
set_option maxHeartbeats 4000000 in
/-- advance where no stage follows -/
theorem t_C_advance_st (l : Launch) (hlt : l.stackTraces = false) (dC : Nat → ClassId) (dI : Nat → Nat → Nat) (Z : Nat → Nat) (cI cP : ClassId) (p0 q0 g0 h0 : Nat) (S : Nat → Nat → Int32) (hne : ¬ S 0 0 = 1 ∧ ¬ S 0 0 = 2 ∧ ¬ S 0 0 = 3 ∧ ¬ S 0 0 = 4) : Tc l y_C_advance ws_C_advance 6 82 [.ref (Z 0)] (bX dC dI Z cI cP p0 q0 g0 h0 S) "java/lang/IllegalStateException" := by
  refine vx_ofW (cc := b_C_advance) (maxL := 1) (ret := (some .int)) (by decide) rfl ?_
  intro p e s m args below meth c s₁ B hml hemp hv
  obtain ⟨rfl, ⟨hP, hK⟩, hxx⟩ := hv
  have hx := B.exec
  have hb := B.bytes
  have hr := B.returns
  have hts : ∀ w ∈ AL, w.before ([.ref (Z 0)] : List Value).toArray s = true := fun w h => atoms_spec (ws := ws_C_advance) B.pre w (List.mem_cons_of_mem _ h)
  have hown : s.vm.findClass "DealtSecret" = some m.cls := findClass_of_methodNamed B.named
  have hlk := B.notSynchronized
  have hl := lv_entry ([.ref (Z 0)]) (n := 1) (Nat.le_of_ble_eq_true rfl)
  rw [lg_entry_eq]
  generalize (lg_sl ([.ref (Z 0)]) ++ List.replicate (1 - (lg_sl ([.ref (Z 0)])).length) Slot.unset).toArray = ls at hl ⊢
  have hl : lv_has ls 1 [(0, .ref (Z 0))] := hl
  refine lv_aload_n hx hb d_C_advance_0 rfl (lv_at hl 0 rfl) ?_
  refine va_get (D := (dC, dI)) (ci := 2) (v := .int (S 0 0)) (C := "DealtSecret") (T := T_C) (N := 11) hx hb hts i_C hown hK hP 0 rfl rfl 5 (by decide) (hts _ k_106) (fun _ h9 => h9) rfl d_C_advance_1 ?_
  have n1 := lv_neT hne.1 (a := 1) (by decide)
  have n2 := lv_neT hne.2.1 (a := 2) (by decide)
  have n3 := lv_neT hne.2.2.1 (a := 3) (by decide)
  have n4 := lv_neT hne.2.2.2 (a := 4) (by decide)
  refine lv_tableOut (tgt := 108) hx hb d_C_advance_4 (by omega) (by decide) ?_
  exact tx_throw (tx := "no stage follows this one") hx hb hlt hemp hlk (hl.1.trans hml.symm) hown (by decide +kernel) hts xg_ISE xn_ISE (by decide +kernel) k_272 k_10 hxx (by decide +kernel) (by decide +kernel) d_C_advance_108 d_C_advance_111 d_C_advance_112 d_C_advance_114 d_C_advance_117 (Nat.le_of_ble_eq_true rfl) (Nat.le_of_ble_eq_true rfl) (Nat.le_of_ble_eq_true rfl) (Nat.le_of_ble_eq_true rfl)
set_option maxRecDepth 100000 in
set_option maxHeartbeats 4000000 in
/-- begin with numbers that no deal has -/
theorem t_C_begin (l : Launch) (hlt : l.stackTraces = false) (dC : Nat → ClassId) (dI : Nat → Nat → Nat) (Z : Nat → Nat) (cI cP : ClassId) (p0 q0 g0 h0 : Nat) (S : Nat → Nat → Int32) (n1 t1 b1 : Int32) (hbad : ¬ bgOk n1 t1 (nI q0)) : Tc l y_C_begin ws_C_begin 6 82 [.ref (Z 0), .int n1, .int t1, .int b1] (bX dC dI Z cI cP p0 q0 g0 h0 S) "java/lang/IllegalArgumentException" := by
  refine vx_ofW (cc := b_C_begin) (maxL := 5) (ret := none) (by decide) rfl ?_
  intro p e s m args below meth c s₁ B hml hemp hv
  obtain ⟨rfl, ⟨hP, hK⟩, hxx⟩ := hv
  have hx := B.exec
  have hb := B.bytes
  have hr := B.returns
  have hts : ∀ w ∈ AL, w.before ([.ref (Z 0), .int n1, .int t1, .int b1] : List Value).toArray s = true := fun w h => atoms_spec (ws := ws_C_begin) B.pre w (List.mem_cons_of_mem _ h)
  have hown : s.vm.findClass "DealtSecret" = some m.cls := findClass_of_methodNamed B.named
  have hlk := B.notSynchronized
  have hl := lv_entry ([.ref (Z 0), .int n1, .int t1, .int b1]) (n := 5) (Nat.le_of_ble_eq_true rfl)
  rw [lg_entry_eq]
  generalize (lg_sl ([.ref (Z 0), .int n1, .int t1, .int b1]) ++ List.replicate (5 - (lg_sl ([.ref (Z 0), .int n1, .int t1, .int b1])).length) Slot.unset).toArray = ls at hl ⊢
  have hl : lv_has ls 5 [(0, .ref (Z 0)), (1, .int n1), (2, .int t1), (3, .int b1)] := hl
  refine lv_iload_n hx hb d_C_begin_0 rfl (lv_at hl 1 rfl) ?_
  refine lv_iconst (v := 1) hx hb d_C_begin_1 (by decide) ?_
  refine lv_icmp_lt (tgt := 32) hx hb d_C_begin_2 (by decide) (fun c2 => ?_) (fun c2 => ?_)
  · exact tx_throw (tx := "no deal has these numbers") hx hb hlt hemp hlk (hl.1.trans hml.symm) hown (by decide +kernel) hts xg_IAE xn_IAE (by decide +kernel) k_204 k_8 hxx (by decide +kernel) (by decide +kernel) d_C_begin_32 d_C_begin_35 d_C_begin_36 d_C_begin_38 d_C_begin_41 (Nat.le_of_ble_eq_true rfl) (Nat.le_of_ble_eq_true rfl) (Nat.le_of_ble_eq_true rfl) (Nat.le_of_ble_eq_true rfl)
  · refine lv_iload_n hx hb d_C_begin_5 rfl (lv_at hl 1 rfl) ?_
    refine lv_bipush (v := 7) hx hb d_C_begin_6 (by decide) ?_
    refine lv_icmp_gt (tgt := 32) hx hb d_C_begin_8 (by decide) (fun c8 => ?_) (fun c8 => ?_)
    · exact tx_throw (tx := "no deal has these numbers") hx hb hlt hemp hlk (hl.1.trans hml.symm) hown (by decide +kernel) hts xg_IAE xn_IAE (by decide +kernel) k_204 k_8 hxx (by decide +kernel) (by decide +kernel) d_C_begin_32 d_C_begin_35 d_C_begin_36 d_C_begin_38 d_C_begin_41 (Nat.le_of_ble_eq_true rfl) (Nat.le_of_ble_eq_true rfl) (Nat.le_of_ble_eq_true rfl) (Nat.le_of_ble_eq_true rfl)
    · refine lv_iload_n hx hb d_C_begin_11 rfl (lv_at hl 2 rfl) ?_
      refine lv_iconst (v := 1) hx hb d_C_begin_12 (by decide) ?_
      refine lv_icmp_lt (tgt := 32) hx hb d_C_begin_13 (by decide) (fun c13 => ?_) (fun c13 => ?_)
      · exact tx_throw (tx := "no deal has these numbers") hx hb hlt hemp hlk (hl.1.trans hml.symm) hown (by decide +kernel) hts xg_IAE xn_IAE (by decide +kernel) k_204 k_8 hxx (by decide +kernel) (by decide +kernel) d_C_begin_32 d_C_begin_35 d_C_begin_36 d_C_begin_38 d_C_begin_41 (Nat.le_of_ble_eq_true rfl) (Nat.le_of_ble_eq_true rfl) (Nat.le_of_ble_eq_true rfl) (Nat.le_of_ble_eq_true rfl)
      · refine lv_iload_n hx hb d_C_begin_16 rfl (lv_at hl 2 rfl) ?_
        refine lv_iload_n hx hb d_C_begin_17 rfl (lv_at hl 1 rfl) ?_
        refine lv_icmp_gt (tgt := 32) hx hb d_C_begin_18 (by decide) (fun c18 => ?_) (fun c18 => ?_)
        · exact tx_throw (tx := "no deal has these numbers") hx hb hlt hemp hlk (hl.1.trans hml.symm) hown (by decide +kernel) hts xg_IAE xn_IAE (by decide +kernel) k_204 k_8 hxx (by decide +kernel) (by decide +kernel) d_C_begin_32 d_C_begin_35 d_C_begin_36 d_C_begin_38 d_C_begin_41 (Nat.le_of_ble_eq_true rfl) (Nat.le_of_ble_eq_true rfl) (Nat.le_of_ble_eq_true rfl) (Nat.le_of_ble_eq_true rfl)
        · refine lv_aload_n hx hb d_C_begin_21 rfl (lv_at hl 0 rfl) ?_
          refine va_get (D := (dC, dI)) (ci := 2) (v := .ref (Z 1)) (C := "DealtSecret") (T := T_C) (N := 11) hx hb hts i_C hown hK hP 0 rfl rfl 0 (by decide) (hts _ k_101) (fun _ h9 => h9) rfl d_C_begin_22 ?_
          refine va_get (D := (dC, dI)) (ci := 0) (v := .int (nI q0)) (C := "DealtSecret$Group") (T := T_G) (N := 4) hx hb hts i_G hown hK hP 1 rfl rfl 1 (by decide) (hts _ k_45) (fun _ h9 => h9) rfl d_C_begin_25 ?_
          refine lv_iload_n hx hb d_C_begin_28 rfl (lv_at hl 1 rfl) ?_
          refine lv_icmp_gt (tgt := 42) hx hb d_C_begin_29 (by decide) (fun c_ => absurd c_ (fun q => hbad ⟨c2, c8, c13, c18, q⟩)) (fun _ => ?_)
          exact tx_throw (tx := "no deal has these numbers") hx hb hlt hemp hlk (hl.1.trans hml.symm) hown (by decide +kernel) hts xg_IAE xn_IAE (by decide +kernel) k_204 k_8 hxx (by decide +kernel) (by decide +kernel) d_C_begin_32 d_C_begin_35 d_C_begin_36 d_C_begin_38 d_C_begin_41 (Nat.le_of_ble_eq_true rfl) (Nat.le_of_ble_eq_true rfl) (Nat.le_of_ble_eq_true rfl) (Nat.le_of_ble_eq_true rfl)
end
section
/-- what the reference notes of a refusal -/
def rf (a b : Int32) : Int32 := if a = 0 then (if b = 0 then 0 else 2) else 1
def rfa (v : Int32) : Int32 := if v = 0 then 0 else 1
theorem rf_3 (a b : Int32) : rf a b = 0 ∨ rf a b = 1 ∨ rf a b = 2 := by
  unfold rf
  by_cases h : a = 0
  · rw [if_pos h]
    by_cases k : b = 0
    · rw [if_pos k]; exact Or.inl rfl
    · rw [if_neg k]; exact Or.inr (Or.inr rfl)
  · rw [if_neg h]; exact Or.inr (Or.inl rfl)
set_option maxRecDepth 100000 in
set_option maxHeartbeats 4000000 in
/-- refuses(state, argument) -/
theorem c_M_refuses (l : Launch) (dC : Nat → ClassId) (dI : Nat → Nat → Nat) (Y : Nat → Nat) (cI cZ : ClassId) (p0 q0 g0 h0 : Nat) (S : Nat → Nat → Int32) (a b v r : Int32) (hv : rf a b = v) (hra : rfa v = r) : Wr l y_M_refuses ws_M_refuses 0 0 [.ref (Y 0), .int a, .int b] (dC, dI) cls (tysM cI cZ) (wM Y cI cZ p0 q0 g0 h0 (S)) (wM Y cI cZ p0 q0 g0 h0 (up S 0 1 v)) (some (.int r)) := by
  refine Met.ofW (cc := b_M_refuses) (maxL := 3) (ret := (some .boolean)) (by decide) rfl ?_
  intro p e s m args below meth c s₁ B hml hv
  obtain ⟨rfl, hP, hK, hD0⟩ := hv
  have hx := B.exec
  have hb := B.bytes
  have hr := B.returns
  have hts : ∀ w ∈ AL, w.before ([.ref (Y 0), .int a, .int b] : List Value).toArray s = true := fun w h => atoms_spec (ws := ws_M_refuses) B.pre w (List.mem_cons_of_mem _ h)
  have hown : s.vm.findClass "DealtSecretModel" = some m.cls := findClass_of_methodNamed B.named
  have hlk := B.notSynchronized
  have hl := lv_entry ([.ref (Y 0), .int a, .int b]) (n := 3) (Nat.le_of_ble_eq_true rfl)
  rw [lg_entry_eq]
  generalize (lg_sl ([.ref (Y 0), .int a, .int b]) ++ List.replicate (3 - (lg_sl ([.ref (Y 0), .int a, .int b])).length) Slot.unset).toArray = ls at hl ⊢
  have hl : lv_has ls 3 [(0, .ref (Y 0)), (1, .int a), (2, .int b)] := hl
  have hD := w_self hD0
  have hS : va_S (w_A (wM Y cI cZ p0 q0 g0 h0 (S))) s.heap s.heap [] := va_S.rf
  have h3 : v = 0 ∨ v = 1 ∨ v = 2 := by rw [← hv]; exact rf_3 a b
  refine lv_aload_n hx hb d_M_refuses_0 rfl (lv_at hl 0 rfl) ?_
  refine lv_iload_n hx hb d_M_refuses_1 rfl (lv_at hl 1 rfl) ?_
  refine lv_if_eq (tgt := 9) hx hb d_M_refuses_2 (by decide) (fun c2 => ?_) (fun c2 => ?_)
  · refine lv_iload_n hx hb d_M_refuses_9 rfl (lv_at hl 2 rfl) ?_
    refine lv_if_eq (tgt := 17) hx hb d_M_refuses_10 (by decide) (fun c10 => ?_) (fun c10 => ?_)
    · refine lv_iconst (v := 0) hx hb d_M_refuses_17 (by decide) ?_
      refine x_i (y := v) ((show rf a b = 0 from (if_pos c2).trans (if_pos c10)) ▸ hv) ?_
      refine va_put (D := (dC, dI)) (ci := 3) (v := .int v) (ty := .int) (C := "DealtSecretModel") (T := T_M) (N := 24) hx hb hts i_M t_M t_M_ok n_M hown hK hP hD hS 0 rfl rfl 5 (by decide) (hts _ k_448) (fun _ h9 => h9) rfl (by decide +kernel) (rfl) (rfl) (Nat.le_of_ble_eq_true rfl) d_M_refuses_18 (fun H locs hP hD hS => ?_)
      have hP : va_P (dC, dI) cls (wM Y cI cZ p0 q0 g0 h0 (up S 0 1 v)) H := hP
      have hD : va_D (w_A (wM Y cI cZ p0 q0 g0 h0 (S))) (wM Y cI cZ p0 q0 g0 h0 (up S 0 1 v)) := hD
      refine lv_aload_n hx hb d_M_refuses_21 rfl (lv_at hl 0 rfl) ?_
      refine va_get (D := (dC, dI)) (ci := 3) (v := .int ((up S 0 1 v) 0 1)) (C := "DealtSecretModel") (T := T_M) (N := 24) hx hb hts i_M hown hK hP 0 rfl rfl 5 (by decide) (hts _ k_448) (fun _ h9 => h9) rfl d_M_refuses_22 ?_
      refine x_i (y := v) (up_at _ _ _ _) ?_
      refine lv_if_le (tgt := 32) hx hb d_M_refuses_25 (by decide) (fun c25 => ?_) (fun c25 => ?_)
      · have h0 : v = 0 := by rcases h3 with q | q | q <;> first | exact q | (rw [q] at c25; exact absurd c25 (by decide))
        refine lv_iconst (v := 0) hx hb d_M_refuses_32 (by decide) ?_
        refine x_i (y := r) ((show rfa v = 0 from if_pos h0) ▸ hra) ?_
        exact wr_z hx hb hr hlk (by rw [← hra]; unfold rfa; by_cases q : v = 0 <;> simp only [q, if_true, if_false] <;> rfl) hP hS d_M_refuses_33
      · have h0 : ¬ v = 0 := fun q => c25 (by rw [q]; decide)
        refine lv_iconst (v := 1) hx hb d_M_refuses_28 (by decide) ?_
        refine x_i (y := r) ((show rfa v = 1 from if_neg h0) ▸ hra) ?_
        refine lv_goto (tgt := 33) hx hb d_M_refuses_29 (by decide) ?_
        exact wr_z hx hb hr hlk (by rw [← hra]; unfold rfa; by_cases q : v = 0 <;> simp only [q, if_true, if_false] <;> rfl) hP hS d_M_refuses_33
    · refine lv_iconst (v := 2) hx hb d_M_refuses_13 (by decide) ?_
      refine x_i (y := v) ((show rf a b = 2 from (if_pos c2).trans (if_neg c10)) ▸ hv) ?_
      refine lv_goto (tgt := 18) hx hb d_M_refuses_14 (by decide) ?_
      refine va_put (D := (dC, dI)) (ci := 3) (v := .int v) (ty := .int) (C := "DealtSecretModel") (T := T_M) (N := 24) hx hb hts i_M t_M t_M_ok n_M hown hK hP hD hS 0 rfl rfl 5 (by decide) (hts _ k_448) (fun _ h9 => h9) rfl (by decide +kernel) (rfl) (rfl) (Nat.le_of_ble_eq_true rfl) d_M_refuses_18 (fun H locs hP hD hS => ?_)
      have hP : va_P (dC, dI) cls (wM Y cI cZ p0 q0 g0 h0 (up S 0 1 v)) H := hP
      have hD : va_D (w_A (wM Y cI cZ p0 q0 g0 h0 (S))) (wM Y cI cZ p0 q0 g0 h0 (up S 0 1 v)) := hD
      refine lv_aload_n hx hb d_M_refuses_21 rfl (lv_at hl 0 rfl) ?_
      refine va_get (D := (dC, dI)) (ci := 3) (v := .int ((up S 0 1 v) 0 1)) (C := "DealtSecretModel") (T := T_M) (N := 24) hx hb hts i_M hown hK hP 0 rfl rfl 5 (by decide) (hts _ k_448) (fun _ h9 => h9) rfl d_M_refuses_22 ?_
      refine x_i (y := v) (up_at _ _ _ _) ?_
      refine lv_if_le (tgt := 32) hx hb d_M_refuses_25 (by decide) (fun c25 => ?_) (fun c25 => ?_)
      · have h0 : v = 0 := by rcases h3 with q | q | q <;> first | exact q | (rw [q] at c25; exact absurd c25 (by decide))
        refine lv_iconst (v := 0) hx hb d_M_refuses_32 (by decide) ?_
        refine x_i (y := r) ((show rfa v = 0 from if_pos h0) ▸ hra) ?_
        exact wr_z hx hb hr hlk (by rw [← hra]; unfold rfa; by_cases q : v = 0 <;> simp only [q, if_true, if_false] <;> rfl) hP hS d_M_refuses_33
      · have h0 : ¬ v = 0 := fun q => c25 (by rw [q]; decide)
        refine lv_iconst (v := 1) hx hb d_M_refuses_28 (by decide) ?_
        refine x_i (y := r) ((show rfa v = 1 from if_neg h0) ▸ hra) ?_
        refine lv_goto (tgt := 33) hx hb d_M_refuses_29 (by decide) ?_
        exact wr_z hx hb hr hlk (by rw [← hra]; unfold rfa; by_cases q : v = 0 <;> simp only [q, if_true, if_false] <;> rfl) hP hS d_M_refuses_33
  · refine lv_iconst (v := 1) hx hb d_M_refuses_5 (by decide) ?_
    refine x_i (y := v) ((show rf a b = 1 from if_neg c2) ▸ hv) ?_
    refine lv_goto (tgt := 18) hx hb d_M_refuses_6 (by decide) ?_
    refine va_put (D := (dC, dI)) (ci := 3) (v := .int v) (ty := .int) (C := "DealtSecretModel") (T := T_M) (N := 24) hx hb hts i_M t_M t_M_ok n_M hown hK hP hD hS 0 rfl rfl 5 (by decide) (hts _ k_448) (fun _ h9 => h9) rfl (by decide +kernel) (rfl) (rfl) (Nat.le_of_ble_eq_true rfl) d_M_refuses_18 (fun H locs hP hD hS => ?_)
    have hP : va_P (dC, dI) cls (wM Y cI cZ p0 q0 g0 h0 (up S 0 1 v)) H := hP
    have hD : va_D (w_A (wM Y cI cZ p0 q0 g0 h0 (S))) (wM Y cI cZ p0 q0 g0 h0 (up S 0 1 v)) := hD
    refine lv_aload_n hx hb d_M_refuses_21 rfl (lv_at hl 0 rfl) ?_
    refine va_get (D := (dC, dI)) (ci := 3) (v := .int ((up S 0 1 v) 0 1)) (C := "DealtSecretModel") (T := T_M) (N := 24) hx hb hts i_M hown hK hP 0 rfl rfl 5 (by decide) (hts _ k_448) (fun _ h9 => h9) rfl d_M_refuses_22 ?_
    refine x_i (y := v) (up_at _ _ _ _) ?_
    refine lv_if_le (tgt := 32) hx hb d_M_refuses_25 (by decide) (fun c25 => ?_) (fun c25 => ?_)
    · have h0 : v = 0 := by rcases h3 with q | q | q <;> first | exact q | (rw [q] at c25; exact absurd c25 (by decide))
      refine lv_iconst (v := 0) hx hb d_M_refuses_32 (by decide) ?_
      refine x_i (y := r) ((show rfa v = 0 from if_pos h0) ▸ hra) ?_
      exact wr_z hx hb hr hlk (by rw [← hra]; unfold rfa; by_cases q : v = 0 <;> simp only [q, if_true, if_false] <;> rfl) hP hS d_M_refuses_33
    · have h0 : ¬ v = 0 := fun q => c25 (by rw [q]; decide)
      refine lv_iconst (v := 1) hx hb d_M_refuses_28 (by decide) ?_
      refine x_i (y := r) ((show rfa v = 1 from if_neg h0) ▸ hra) ?_
      refine lv_goto (tgt := 33) hx hb d_M_refuses_29 (by decide) ?_
      exact wr_z hx hb hr hlk (by rw [← hra]; unfold rfa; by_cases q : v = 0 <;> simp only [q, if_true, if_false] <;> rfl) hP hS d_M_refuses_33
set_option maxRecDepth 100000 in
set_option maxHeartbeats 4000000 in
/-- thrown() -/
theorem c_M_thrown (l : Launch) (dC : Nat → ClassId) (dI : Nat → Nat → Nat) (Y : Nat → Nat) (cI cZ : ClassId) (p0 q0 g0 h0 : Nat) (S : Nat → Nat → Int32) : Ro l y_M_thrown ws_M_thrown 0 0 [.ref (Y 0)] (bM dC dI Y cI cZ p0 q0 g0 h0 S) (S 0 1) := by
  refine Met.ofW (cc := b_M_thrown) (maxL := 1) (ret := (some .int)) (by decide) rfl ?_
  intro p e s m args below meth c s₁ B hml hv
  obtain ⟨rfl, hP, hK⟩ := hv
  have hx := B.exec
  have hb := B.bytes
  have hr := B.returns
  have hts : ∀ w ∈ AL, w.before ([.ref (Y 0)] : List Value).toArray s = true := fun w h => atoms_spec (ws := ws_M_thrown) B.pre w (List.mem_cons_of_mem _ h)
  have hown : s.vm.findClass "DealtSecretModel" = some m.cls := findClass_of_methodNamed B.named
  have hlk := B.notSynchronized
  have hl := lv_entry ([.ref (Y 0)]) (n := 1) (Nat.le_of_ble_eq_true rfl)
  rw [lg_entry_eq]
  generalize (lg_sl ([.ref (Y 0)]) ++ List.replicate (1 - (lg_sl ([.ref (Y 0)])).length) Slot.unset).toArray = ls at hl ⊢
  have hl : lv_has ls 1 [(0, .ref (Y 0))] := hl
  refine lv_aload_n hx hb d_M_thrown_0 rfl (lv_at hl 0 rfl) ?_
  refine va_get (D := (dC, dI)) (ci := 3) (v := .int (S 0 1)) (C := "DealtSecretModel") (T := T_M) (N := 24) hx hb hts i_M hown hK hP 0 rfl rfl 5 (by decide) (hts _ k_448) (fun _ h9 => h9) rfl d_M_thrown_1 ?_
  exact ro_i hx hb hr hlk d_M_thrown_4 (rfl)
end
