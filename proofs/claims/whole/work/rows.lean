section
-- ===== PART A: goes FIRST, ahead of the names: the tables' words, and 'selects' of the private methods out of them =====
/-- a private method of a class that the tables say can be made, by its rows of tables_1 -/
def lw_okq (q : MethodName × Nat) : Prop := (q.1.cls ≠ "java/lang/invoke/MethodHandle" ∧ q.1.cls ≠ "java/lang/invoke/VarHandle") ∧ Cond.instantiable q.1.cls q.2 ∈ tables_1 ∧ Cond.privateMethod q.1 ∈ tables_1 ∧ Cond.instanceMethod q.1 ∈ tables_1
theorem lw_p0 : lw_okq (⟨"AbbeyNotes", "tryMonths", "(I)I"⟩, 7) := ⟨⟨by decide +kernel, by decide +kernel⟩, List.mem_of_getElem? (i := 14) (by decide +kernel), List.mem_of_getElem? (i := 279) (by decide +kernel), List.mem_of_getElem? (i := 280) (by decide +kernel)⟩
theorem lw_p1 : lw_okq (⟨"AbbeyNotes$Trial", "read", "(LAbbeyNotes$Pad;I)V"⟩, 9) := ⟨⟨by decide +kernel, by decide +kernel⟩, List.mem_of_getElem? (i := 107) (by decide +kernel), List.mem_of_getElem? (i := 294) (by decide +kernel), List.mem_of_getElem? (i := 295) (by decide +kernel)⟩
theorem lw_p2 : lw_okq (⟨"AbbeyNotes$Realm", "printed", "(I)I"⟩, 9) := ⟨⟨by decide +kernel, by decide +kernel⟩, List.mem_of_getElem? (i := 22) (by decide +kernel), List.mem_of_getElem? (i := 312) (by decide +kernel), List.mem_of_getElem? (i := 313) (by decide +kernel)⟩
theorem lw_p3 : lw_okq (⟨"AbbeyNotes$Realm", "paidByState", "(II)I"⟩, 9) := ⟨⟨by decide +kernel, by decide +kernel⟩, List.mem_of_getElem? (i := 22) (by decide +kernel), List.mem_of_getElem? (i := 317) (by decide +kernel), List.mem_of_getElem? (i := 318) (by decide +kernel)⟩
theorem lw_p4 : lw_okq (⟨"AbbeyNotes$Realm", "bought", "(II)I"⟩, 9) := ⟨⟨by decide +kernel, by decide +kernel⟩, List.mem_of_getElem? (i := 22) (by decide +kernel), List.mem_of_getElem? (i := 321) (by decide +kernel), List.mem_of_getElem? (i := 322) (by decide +kernel)⟩
theorem lw_p5 : lw_okq (⟨"AbbeyNotes$Realm", "exchanged", "(II)I"⟩, 9) := ⟨⟨by decide +kernel, by decide +kernel⟩, List.mem_of_getElem? (i := 22) (by decide +kernel), List.mem_of_getElem? (i := 325) (by decide +kernel), List.mem_of_getElem? (i := 326) (by decide +kernel)⟩
theorem lw_p6 : lw_okq (⟨"AbbeyNotes$Realm", "settled", "(II)I"⟩, 9) := ⟨⟨by decide +kernel, by decide +kernel⟩, List.mem_of_getElem? (i := 22) (by decide +kernel), List.mem_of_getElem? (i := 347) (by decide +kernel), List.mem_of_getElem? (i := 348) (by decide +kernel)⟩
theorem lw_p7 : lw_okq (⟨"AbbeyNotes$Realm", "forgedFor", "(II)I"⟩, 9) := ⟨⟨by decide +kernel, by decide +kernel⟩, List.mem_of_getElem? (i := 22) (by decide +kernel), List.mem_of_getElem? (i := 352) (by decide +kernel), List.mem_of_getElem? (i := 353) (by decide +kernel)⟩
theorem lw_p8 : lw_okq (⟨"AbbeyNotes$Realm", "monthEnded", "()I"⟩, 9) := ⟨⟨by decide +kernel, by decide +kernel⟩, List.mem_of_getElem? (i := 22) (by decide +kernel), List.mem_of_getElem? (i := 356) (by decide +kernel), List.mem_of_getElem? (i := 357) (by decide +kernel)⟩
theorem lw_p9 : lw_okq (⟨"AbbeyNotes$Trial", "endMonth", "(I)V"⟩, 9) := ⟨⟨by decide +kernel, by decide +kernel⟩, List.mem_of_getElem? (i := 107) (by decide +kernel), List.mem_of_getElem? (i := 360) (by decide +kernel), List.mem_of_getElem? (i := 361) (by decide +kernel)⟩
theorem lw_p10 : lw_okq (⟨"AbbeyNotes$Settling", "dueTo", "(I)I"⟩, 2) := ⟨⟨by decide +kernel, by decide +kernel⟩, List.mem_of_getElem? (i := 148) (by decide +kernel), List.mem_of_getElem? (i := 413) (by decide +kernel), List.mem_of_getElem? (i := 414) (by decide +kernel)⟩
theorem lw_p11 : lw_okq (⟨"AbbeyNotes", "toldOfAll", "(I)I"⟩, 7) := ⟨⟨by decide +kernel, by decide +kernel⟩, List.mem_of_getElem? (i := 14) (by decide +kernel), List.mem_of_getElem? (i := 537) (by decide +kernel), List.mem_of_getElem? (i := 538) (by decide +kernel)⟩
theorem lw_p12 : lw_okq (⟨"AbbeyNotes", "toldOfOne", "(II)I"⟩, 7) := ⟨⟨by decide +kernel, by decide +kernel⟩, List.mem_of_getElem? (i := 14) (by decide +kernel), List.mem_of_getElem? (i := 541) (by decide +kernel), List.mem_of_getElem? (i := 542) (by decide +kernel)⟩
theorem lw_p13 : lw_okq (⟨"AbbeyNotes", "toldOfLot", "(II)I"⟩, 7) := ⟨⟨by decide +kernel, by decide +kernel⟩, List.mem_of_getElem? (i := 14) (by decide +kernel), List.mem_of_getElem? (i := 545) (by decide +kernel), List.mem_of_getElem? (i := 546) (by decide +kernel)⟩
theorem lw_p14 : lw_okq (⟨"AbbeyNotes", "toldOfDebt", "(II)I"⟩, 7) := ⟨⟨by decide +kernel, by decide +kernel⟩, List.mem_of_getElem? (i := 14) (by decide +kernel), List.mem_of_getElem? (i := 549) (by decide +kernel), List.mem_of_getElem? (i := 550) (by decide +kernel)⟩
theorem lw_p15 : lw_okq (⟨"AbbeyNotesModel", "readOn", "(II)I"⟩, 34) := ⟨⟨by decide +kernel, by decide +kernel⟩, List.mem_of_getElem? (i := 553) (by decide +kernel), List.mem_of_getElem? (i := 705) (by decide +kernel), List.mem_of_getElem? (i := 706) (by decide +kernel)⟩
def lw_privs_1 : List (MethodName × Nat) := [(⟨"AbbeyNotes", "tryMonths", "(I)I"⟩, 7), (⟨"AbbeyNotes$Trial", "read", "(LAbbeyNotes$Pad;I)V"⟩, 9), (⟨"AbbeyNotes$Realm", "printed", "(I)I"⟩, 9), (⟨"AbbeyNotes$Realm", "paidByState", "(II)I"⟩, 9), (⟨"AbbeyNotes$Realm", "bought", "(II)I"⟩, 9), (⟨"AbbeyNotes$Realm", "exchanged", "(II)I"⟩, 9), (⟨"AbbeyNotes$Realm", "settled", "(II)I"⟩, 9), (⟨"AbbeyNotes$Realm", "forgedFor", "(II)I"⟩, 9), (⟨"AbbeyNotes$Realm", "monthEnded", "()I"⟩, 9), (⟨"AbbeyNotes$Trial", "endMonth", "(I)V"⟩, 9), (⟨"AbbeyNotes$Settling", "dueTo", "(I)I"⟩, 2), (⟨"AbbeyNotes", "toldOfAll", "(I)I"⟩, 7), (⟨"AbbeyNotes", "toldOfOne", "(II)I"⟩, 7), (⟨"AbbeyNotes", "toldOfLot", "(II)I"⟩, 7), (⟨"AbbeyNotes", "toldOfDebt", "(II)I"⟩, 7), (⟨"AbbeyNotesModel", "readOn", "(II)I"⟩, 34)]
theorem lw_r1 : ∀ q ∈ lw_privs_1, lw_okq q := List.forall_mem_cons.mpr ⟨lw_p0, List.forall_mem_cons.mpr ⟨lw_p1, List.forall_mem_cons.mpr ⟨lw_p2, List.forall_mem_cons.mpr ⟨lw_p3, List.forall_mem_cons.mpr ⟨lw_p4, List.forall_mem_cons.mpr ⟨lw_p5, List.forall_mem_cons.mpr ⟨lw_p6, List.forall_mem_cons.mpr ⟨lw_p7, List.forall_mem_cons.mpr ⟨lw_p8, List.forall_mem_cons.mpr ⟨lw_p9, List.forall_mem_cons.mpr ⟨lw_p10, List.forall_mem_cons.mpr ⟨lw_p11, List.forall_mem_cons.mpr ⟨lw_p12, List.forall_mem_cons.mpr ⟨lw_p13, List.forall_mem_cons.mpr ⟨lw_p14, List.forall_mem_cons.mpr ⟨lw_p15, fun _ h => absurd h List.not_mem_nil⟩⟩⟩⟩⟩⟩⟩⟩⟩⟩⟩⟩⟩⟩⟩⟩
theorem lw_p16 : lw_okq (⟨"AbbeyNotesModel", "begin", "(I)I"⟩, 34) := ⟨⟨by decide +kernel, by decide +kernel⟩, List.mem_of_getElem? (i := 553) (by decide +kernel), List.mem_of_getElem? (i := 709) (by decide +kernel), List.mem_of_getElem? (i := 710) (by decide +kernel)⟩
theorem lw_p17 : lw_okq (⟨"AbbeyNotesModel", "close", "(II)I"⟩, 34) := ⟨⟨by decide +kernel, by decide +kernel⟩, List.mem_of_getElem? (i := 553) (by decide +kernel), List.mem_of_getElem? (i := 718) (by decide +kernel), List.mem_of_getElem? (i := 719) (by decide +kernel)⟩
theorem lw_p18 : lw_okq (⟨"AbbeyNotesModel", "number", "(III)I"⟩, 34) := ⟨⟨by decide +kernel, by decide +kernel⟩, List.mem_of_getElem? (i := 553) (by decide +kernel), List.mem_of_getElem? (i := 725) (by decide +kernel), List.mem_of_getElem? (i := 726) (by decide +kernel)⟩
theorem lw_p19 : lw_okq (⟨"AbbeyNotesModel", "forWhom", "(I)I"⟩, 34) := ⟨⟨by decide +kernel, by decide +kernel⟩, List.mem_of_getElem? (i := 553) (by decide +kernel), List.mem_of_getElem? (i := 731) (by decide +kernel), List.mem_of_getElem? (i := 732) (by decide +kernel)⟩
theorem lw_p20 : lw_okq (⟨"AbbeyNotesModel", "refusal", "()I"⟩, 34) := ⟨⟨by decide +kernel, by decide +kernel⟩, List.mem_of_getElem? (i := 553) (by decide +kernel), List.mem_of_getElem? (i := 742) (by decide +kernel), List.mem_of_getElem? (i := 743) (by decide +kernel)⟩
theorem lw_p21 : lw_okq (⟨"AbbeyNotesModel", "keepNow", "()V"⟩, 34) := ⟨⟨by decide +kernel, by decide +kernel⟩, List.mem_of_getElem? (i := 553) (by decide +kernel), List.mem_of_getElem? (i := 746) (by decide +kernel), List.mem_of_getElem? (i := 747) (by decide +kernel)⟩
theorem lw_p22 : lw_okq (⟨"AbbeyNotesModel", "goMonths", "()V"⟩, 34) := ⟨⟨by decide +kernel, by decide +kernel⟩, List.mem_of_getElem? (i := 553) (by decide +kernel), List.mem_of_getElem? (i := 751) (by decide +kernel), List.mem_of_getElem? (i := 752) (by decide +kernel)⟩
theorem lw_p23 : lw_okq (⟨"AbbeyNotesModel", "whyNot", "(III)I"⟩, 34) := ⟨⟨by decide +kernel, by decide +kernel⟩, List.mem_of_getElem? (i := 553) (by decide +kernel), List.mem_of_getElem? (i := 755) (by decide +kernel), List.mem_of_getElem? (i := 756) (by decide +kernel)⟩
theorem lw_p24 : lw_okq (⟨"AbbeyNotesModel", "whyNotChange", "(II)I"⟩, 34) := ⟨⟨by decide +kernel, by decide +kernel⟩, List.mem_of_getElem? (i := 553) (by decide +kernel), List.mem_of_getElem? (i := 760) (by decide +kernel), List.mem_of_getElem? (i := 761) (by decide +kernel)⟩
theorem lw_p25 : lw_okq (⟨"AbbeyNotesModel", "worth", "(I)I"⟩, 34) := ⟨⟨by decide +kernel, by decide +kernel⟩, List.mem_of_getElem? (i := 553) (by decide +kernel), List.mem_of_getElem? (i := 764) (by decide +kernel), List.mem_of_getElem? (i := 765) (by decide +kernel)⟩
theorem lw_p26 : lw_okq (⟨"AbbeyNotesModel", "rate", "()I"⟩, 34) := ⟨⟨by decide +kernel, by decide +kernel⟩, List.mem_of_getElem? (i := 553) (by decide +kernel), List.mem_of_getElem? (i := 768) (by decide +kernel), List.mem_of_getElem? (i := 769) (by decide +kernel)⟩
theorem lw_p27 : lw_okq (⟨"AbbeyNotesModel", "land", "()I"⟩, 34) := ⟨⟨by decide +kernel, by decide +kernel⟩, List.mem_of_getElem? (i := 553) (by decide +kernel), List.mem_of_getElem? (i := 772) (by decide +kernel), List.mem_of_getElem? (i := 773) (by decide +kernel)⟩
theorem lw_p28 : lw_okq (⟨"AbbeyNotesModel", "notes", "()I"⟩, 34) := ⟨⟨by decide +kernel, by decide +kernel⟩, List.mem_of_getElem? (i := 553) (by decide +kernel), List.mem_of_getElem? (i := 776) (by decide +kernel), List.mem_of_getElem? (i := 777) (by decide +kernel)⟩
theorem lw_p29 : lw_okq (⟨"AbbeyNotesModel", "whyNotPay", "(II)I"⟩, 34) := ⟨⟨by decide +kernel, by decide +kernel⟩, List.mem_of_getElem? (i := 553) (by decide +kernel), List.mem_of_getElem? (i := 784) (by decide +kernel), List.mem_of_getElem? (i := 785) (by decide +kernel)⟩
theorem lw_p30 : lw_okq (⟨"AbbeyNotesModel", "payment", "(II)I"⟩, 34) := ⟨⟨by decide +kernel, by decide +kernel⟩, List.mem_of_getElem? (i := 553) (by decide +kernel), List.mem_of_getElem? (i := 788) (by decide +kernel), List.mem_of_getElem? (i := 789) (by decide +kernel)⟩
theorem lw_p31 : lw_okq (⟨"AbbeyNotesModel", "happen", "(III)V"⟩, 34) := ⟨⟨by decide +kernel, by decide +kernel⟩, List.mem_of_getElem? (i := 553) (by decide +kernel), List.mem_of_getElem? (i := 792) (by decide +kernel), List.mem_of_getElem? (i := 793) (by decide +kernel)⟩
def lw_privs_2 : List (MethodName × Nat) := [(⟨"AbbeyNotesModel", "begin", "(I)I"⟩, 34), (⟨"AbbeyNotesModel", "close", "(II)I"⟩, 34), (⟨"AbbeyNotesModel", "number", "(III)I"⟩, 34), (⟨"AbbeyNotesModel", "forWhom", "(I)I"⟩, 34), (⟨"AbbeyNotesModel", "refusal", "()I"⟩, 34), (⟨"AbbeyNotesModel", "keepNow", "()V"⟩, 34), (⟨"AbbeyNotesModel", "goMonths", "()V"⟩, 34), (⟨"AbbeyNotesModel", "whyNot", "(III)I"⟩, 34), (⟨"AbbeyNotesModel", "whyNotChange", "(II)I"⟩, 34), (⟨"AbbeyNotesModel", "worth", "(I)I"⟩, 34), (⟨"AbbeyNotesModel", "rate", "()I"⟩, 34), (⟨"AbbeyNotesModel", "land", "()I"⟩, 34), (⟨"AbbeyNotesModel", "notes", "()I"⟩, 34), (⟨"AbbeyNotesModel", "whyNotPay", "(II)I"⟩, 34), (⟨"AbbeyNotesModel", "payment", "(II)I"⟩, 34), (⟨"AbbeyNotesModel", "happen", "(III)V"⟩, 34)]
theorem lw_r2 : ∀ q ∈ lw_privs_2, lw_okq q := List.forall_mem_cons.mpr ⟨lw_p16, List.forall_mem_cons.mpr ⟨lw_p17, List.forall_mem_cons.mpr ⟨lw_p18, List.forall_mem_cons.mpr ⟨lw_p19, List.forall_mem_cons.mpr ⟨lw_p20, List.forall_mem_cons.mpr ⟨lw_p21, List.forall_mem_cons.mpr ⟨lw_p22, List.forall_mem_cons.mpr ⟨lw_p23, List.forall_mem_cons.mpr ⟨lw_p24, List.forall_mem_cons.mpr ⟨lw_p25, List.forall_mem_cons.mpr ⟨lw_p26, List.forall_mem_cons.mpr ⟨lw_p27, List.forall_mem_cons.mpr ⟨lw_p28, List.forall_mem_cons.mpr ⟨lw_p29, List.forall_mem_cons.mpr ⟨lw_p30, List.forall_mem_cons.mpr ⟨lw_p31, fun _ h => absurd h List.not_mem_nil⟩⟩⟩⟩⟩⟩⟩⟩⟩⟩⟩⟩⟩⟩⟩⟩
theorem lw_p32 : lw_okq (⟨"AbbeyNotesModel", "buy", "(II)V"⟩, 34) := ⟨⟨by decide +kernel, by decide +kernel⟩, List.mem_of_getElem? (i := 553) (by decide +kernel), List.mem_of_getElem? (i := 796) (by decide +kernel), List.mem_of_getElem? (i := 797) (by decide +kernel)⟩
theorem lw_p33 : lw_okq (⟨"AbbeyNotesModel", "swap", "(II)V"⟩, 34) := ⟨⟨by decide +kernel, by decide +kernel⟩, List.mem_of_getElem? (i := 553) (by decide +kernel), List.mem_of_getElem? (i := 800) (by decide +kernel), List.mem_of_getElem? (i := 801) (by decide +kernel)⟩
theorem lw_p34 : lw_okq (⟨"AbbeyNotesModel", "pay", "(II)V"⟩, 34) := ⟨⟨by decide +kernel, by decide +kernel⟩, List.mem_of_getElem? (i := 553) (by decide +kernel), List.mem_of_getElem? (i := 804) (by decide +kernel), List.mem_of_getElem? (i := 805) (by decide +kernel)⟩
theorem lw_p35 : lw_okq (⟨"AbbeyNotesModel", "back", "(I)I"⟩, 34) := ⟨⟨by decide +kernel, by decide +kernel⟩, List.mem_of_getElem? (i := 553) (by decide +kernel), List.mem_of_getElem? (i := 808) (by decide +kernel), List.mem_of_getElem? (i := 809) (by decide +kernel)⟩
theorem lw_p36 : lw_okq (⟨"AbbeyNotesModel", "ofOne", "(II)I"⟩, 34) := ⟨⟨by decide +kernel, by decide +kernel⟩, List.mem_of_getElem? (i := 553) (by decide +kernel), List.mem_of_getElem? (i := 817) (by decide +kernel), List.mem_of_getElem? (i := 818) (by decide +kernel)⟩
theorem lw_p37 : lw_okq (⟨"AbbeyNotesModel", "lotsOf", "(I)I"⟩, 34) := ⟨⟨by decide +kernel, by decide +kernel⟩, List.mem_of_getElem? (i := 553) (by decide +kernel), List.mem_of_getElem? (i := 821) (by decide +kernel), List.mem_of_getElem? (i := 822) (by decide +kernel)⟩
theorem lw_p38 : lw_okq (⟨"AbbeyNotesModel", "owesInAll", "(I)I"⟩, 34) := ⟨⟨by decide +kernel, by decide +kernel⟩, List.mem_of_getElem? (i := 553) (by decide +kernel), List.mem_of_getElem? (i := 825) (by decide +kernel), List.mem_of_getElem? (i := 826) (by decide +kernel)⟩
theorem lw_p39 : lw_okq (⟨"AbbeyNotesModel", "ofAll", "(I)I"⟩, 34) := ⟨⟨by decide +kernel, by decide +kernel⟩, List.mem_of_getElem? (i := 553) (by decide +kernel), List.mem_of_getElem? (i := 833) (by decide +kernel), List.mem_of_getElem? (i := 834) (by decide +kernel)⟩
theorem lw_p40 : lw_okq (⟨"AbbeyNotesModel", "mostEven", "(I)I"⟩, 34) := ⟨⟨by decide +kernel, by decide +kernel⟩, List.mem_of_getElem? (i := 553) (by decide +kernel), List.mem_of_getElem? (i := 849) (by decide +kernel), List.mem_of_getElem? (i := 850) (by decide +kernel)⟩
theorem lw_p41 : lw_okq (⟨"AbbeyNotesModel", "netOf", "(I)I"⟩, 34) := ⟨⟨by decide +kernel, by decide +kernel⟩, List.mem_of_getElem? (i := 553) (by decide +kernel), List.mem_of_getElem? (i := 853) (by decide +kernel), List.mem_of_getElem? (i := 854) (by decide +kernel)⟩
theorem lw_p42 : lw_okq (⟨"AbbeyNotesModel", "pricesOf", "(I)I"⟩, 34) := ⟨⟨by decide +kernel, by decide +kernel⟩, List.mem_of_getElem? (i := 553) (by decide +kernel), List.mem_of_getElem? (i := 865) (by decide +kernel), List.mem_of_getElem? (i := 866) (by decide +kernel)⟩
theorem lw_p43 : lw_okq (⟨"AbbeyNotesModel", "chooseOf", "(II)J"⟩, 34) := ⟨⟨by decide +kernel, by decide +kernel⟩, List.mem_of_getElem? (i := 553) (by decide +kernel), List.mem_of_getElem? (i := 895) (by decide +kernel), List.mem_of_getElem? (i := 896) (by decide +kernel)⟩
theorem lw_p44 : lw_okq (⟨"AbbeyNotesModel", "fits", "(II)Z"⟩, 34) := ⟨⟨by decide +kernel, by decide +kernel⟩, List.mem_of_getElem? (i := 553) (by decide +kernel), List.mem_of_getElem? (i := 912) (by decide +kernel), List.mem_of_getElem? (i := 913) (by decide +kernel)⟩
theorem lw_p45 : lw_okq (⟨"AbbeyNotesModel", "mostLeft", "(II)I"⟩, 34) := ⟨⟨by decide +kernel, by decide +kernel⟩, List.mem_of_getElem? (i := 553) (by decide +kernel), List.mem_of_getElem? (i := 923) (by decide +kernel), List.mem_of_getElem? (i := 924) (by decide +kernel)⟩
theorem lw_p46 : lw_okq (⟨"AbbeyNotesModel", "passAll", "()V"⟩, 34) := ⟨⟨by decide +kernel, by decide +kernel⟩, List.mem_of_getElem? (i := 553) (by decide +kernel), List.mem_of_getElem? (i := 944) (by decide +kernel), List.mem_of_getElem? (i := 945) (by decide +kernel)⟩
theorem lw_p47 : lw_okq (⟨"AbbeyNotesModel", "pass", "(I)I"⟩, 34) := ⟨⟨by decide +kernel, by decide +kernel⟩, List.mem_of_getElem? (i := 553) (by decide +kernel), List.mem_of_getElem? (i := 948) (by decide +kernel), List.mem_of_getElem? (i := 949) (by decide +kernel)⟩
def lw_privs_3 : List (MethodName × Nat) := [(⟨"AbbeyNotesModel", "buy", "(II)V"⟩, 34), (⟨"AbbeyNotesModel", "swap", "(II)V"⟩, 34), (⟨"AbbeyNotesModel", "pay", "(II)V"⟩, 34), (⟨"AbbeyNotesModel", "back", "(I)I"⟩, 34), (⟨"AbbeyNotesModel", "ofOne", "(II)I"⟩, 34), (⟨"AbbeyNotesModel", "lotsOf", "(I)I"⟩, 34), (⟨"AbbeyNotesModel", "owesInAll", "(I)I"⟩, 34), (⟨"AbbeyNotesModel", "ofAll", "(I)I"⟩, 34), (⟨"AbbeyNotesModel", "mostEven", "(I)I"⟩, 34), (⟨"AbbeyNotesModel", "netOf", "(I)I"⟩, 34), (⟨"AbbeyNotesModel", "pricesOf", "(I)I"⟩, 34), (⟨"AbbeyNotesModel", "chooseOf", "(II)J"⟩, 34), (⟨"AbbeyNotesModel", "fits", "(II)Z"⟩, 34), (⟨"AbbeyNotesModel", "mostLeft", "(II)I"⟩, 34), (⟨"AbbeyNotesModel", "passAll", "()V"⟩, 34), (⟨"AbbeyNotesModel", "pass", "(I)I"⟩, 34)]
theorem lw_r3 : ∀ q ∈ lw_privs_3, lw_okq q := List.forall_mem_cons.mpr ⟨lw_p32, List.forall_mem_cons.mpr ⟨lw_p33, List.forall_mem_cons.mpr ⟨lw_p34, List.forall_mem_cons.mpr ⟨lw_p35, List.forall_mem_cons.mpr ⟨lw_p36, List.forall_mem_cons.mpr ⟨lw_p37, List.forall_mem_cons.mpr ⟨lw_p38, List.forall_mem_cons.mpr ⟨lw_p39, List.forall_mem_cons.mpr ⟨lw_p40, List.forall_mem_cons.mpr ⟨lw_p41, List.forall_mem_cons.mpr ⟨lw_p42, List.forall_mem_cons.mpr ⟨lw_p43, List.forall_mem_cons.mpr ⟨lw_p44, List.forall_mem_cons.mpr ⟨lw_p45, List.forall_mem_cons.mpr ⟨lw_p46, List.forall_mem_cons.mpr ⟨lw_p47, fun _ h => absurd h List.not_mem_nil⟩⟩⟩⟩⟩⟩⟩⟩⟩⟩⟩⟩⟩⟩⟩⟩
theorem lw_p48 : lw_okq (⟨"AbbeyNotesModel", "passRow", "([II)V"⟩, 34) := ⟨⟨by decide +kernel, by decide +kernel⟩, List.mem_of_getElem? (i := 553) (by decide +kernel), List.mem_of_getElem? (i := 952) (by decide +kernel), List.mem_of_getElem? (i := 953) (by decide +kernel)⟩
theorem lw_p49 : lw_okq (⟨"AbbeyNotesModel", "toldOfOne", "(II)I"⟩, 34) := ⟨⟨by decide +kernel, by decide +kernel⟩, List.mem_of_getElem? (i := 553) (by decide +kernel), List.mem_of_getElem? (i := 968) (by decide +kernel), List.mem_of_getElem? (i := 969) (by decide +kernel)⟩
theorem lw_p50 : lw_okq (⟨"AbbeyNotesModel", "toldOfAll", "(I)I"⟩, 34) := ⟨⟨by decide +kernel, by decide +kernel⟩, List.mem_of_getElem? (i := 553) (by decide +kernel), List.mem_of_getElem? (i := 972) (by decide +kernel), List.mem_of_getElem? (i := 973) (by decide +kernel)⟩
def lw_privs_4 : List (MethodName × Nat) := [(⟨"AbbeyNotesModel", "passRow", "([II)V"⟩, 34), (⟨"AbbeyNotesModel", "toldOfOne", "(II)I"⟩, 34), (⟨"AbbeyNotesModel", "toldOfAll", "(I)I"⟩, 34)]
theorem lw_r4 : ∀ q ∈ lw_privs_4, lw_okq q := List.forall_mem_cons.mpr ⟨lw_p48, List.forall_mem_cons.mpr ⟨lw_p49, List.forall_mem_cons.mpr ⟨lw_p50, fun _ h => absurd h List.not_mem_nil⟩⟩⟩
def lw_privs : List (MethodName × Nat) := lw_privs_1 ++ (lw_privs_2 ++ (lw_privs_3 ++ (lw_privs_4)))
def lw_tbl : List Cond := k2_sels lw_privs ++ tables_1
theorem lw_privs_ok : ∀ q ∈ lw_privs, lw_okq q := by
  show ∀ q ∈ lw_privs_1 ++ (lw_privs_2 ++ (lw_privs_3 ++ (lw_privs_4))), lw_okq q
  exact List.forall_mem_append.mpr ⟨lw_r1, List.forall_mem_append.mpr ⟨lw_r2, List.forall_mem_append.mpr ⟨lw_r3, lw_r4⟩⟩⟩
-- ===== end of PART A; then your names; then what follows =====
/-! ===== BEGIN words of one list among another's, by their places ===== -/
theorem goodIn_r {big : List Cond} (ws : List Cond) (ps : List Nat) (hp : ws = ps.filterMap (fun i => big[i]?)) (h : ws.all goodWord = true) : GoodIn big ws := by
  intro w hw
  have h1 := List.all_eq_true.mp h w hw
  rw [hp] at hw
  obtain ⟨i, -, hi⟩ := List.mem_filterMap.mp hw
  have hm : w ∈ big := by first | exact List.mem_of_getElem? hi | exact List.getElem?_mem hi
  exact ⟨hm, good_of_word h1⟩
theorem goodIn_app {big a b : List Cond} (ha : GoodIn big a) (hb : GoodIn big b) : GoodIn big (a ++ b) := fun w h => (List.mem_append.mp h).elim (ha w) (hb w)
theorem goodIn_ca {big a b : List Cond} {c : Cond} (ha : GoodIn big (c :: a)) (hb : GoodIn big b) : GoodIn big (c :: (a ++ b)) := fun w h => (List.mem_cons.mp h).elim (fun e => ha w (List.mem_cons.mpr (Or.inl e))) (fun h => (List.mem_append.mp h).elim (fun h => ha w (List.mem_cons.mpr (Or.inr h))) (hb w))
theorem goodIn_sub {big ws : List Cond} (hm : ∀ w ∈ ws, w ∈ big) (h : ws.all goodWord = true) : GoodIn big ws := fun w hw => ⟨hm w hw, good_of_word (List.all_eq_true.mp h w hw)⟩
/-! ===== END ===== -/

/-! ===== BEGIN new T[n][m]: the outer array a place, the inner ones among the pooled ===== -/
/-- f, but v at every address of l -/
def vr_up {α : Type} (f : Nat → α) (l : List Nat) (v : α) : Nat → α := fun a => if a ∈ l then v else f a
theorem vr_up_in {α : Type} {f : Nat → α} {l : List Nat} {v : α} {a : Nat} (h : a ∈ l) : vr_up f l v a = v := if_pos h
theorem vr_up_ne {α : Type} {f : Nat → α} {l : List Nat} {v : α} {a : Nat} (h : a ∉ l) : vr_up f l v a = f a := if_neg h
theorem vr_rows {L l : List Nat} {f : Nat → va_E} {e : va_E} (h : ∀ a, a ∈ l → a ∉ L) : va_pl L f ++ l.map (fun a => (a, e)) = va_pl (L ++ l) (vr_up f l e) := by
  unfold va_pl
  rw [List.map_append]
  congr 1
  · apply List.map_congr_left
    intro a ha
    rw [vr_up_ne (fun q => h a q ha)]
  · apply List.map_congr_left
    intro a ha
    rw [vr_up_in ha]
theorem vr_lay {X rows : va_W} {x : Nat × va_E} {pl : va_W} {D : va_G} {cl : List vw_C} {H : Heap} (hP : va_P D cl (((X ++ pl) ++ [x]) ++ rows) H) : va_P D cl ((X ++ [x]) ++ (pl ++ rows)) H := by
  rw [List.append_assoc (X ++ pl)] at hP
  have h := va_P.swap hP
  rw [← List.append_assoc X] at h
  have h2 := va_P.swap h
  rw [List.append_assoc (X ++ [x])] at h2
  exact h2
theorem vr_layD {X rows : va_W} {x : Nat × va_E} {pl : va_W} {A : Nat → Prop} (hD : va_D A (((X ++ pl) ++ [x]) ++ rows)) : va_D A ((X ++ [x]) ++ (pl ++ rows)) := by
  rw [List.append_assoc (X ++ pl)] at hD
  have h := va_D.swap hD
  rw [← List.append_assoc X] at h
  have h2 := va_D.swap h
  rw [List.append_assoc (X ++ [x])] at h2
  exact h2
theorem vr_outer (c : ClassId) (N h0 : Nat) : ∀ i : Nat, Jvm.Free.Multi.outerC c N h0 i = arrV c N (fun j => va_rf (if j < i then some (h0 + 1 + j) else none))
  | 0 => by
    show ({ cls := c, slots := Array.replicate N .null, vm := .none } : Cell) = _
    rw [arrV_new]
    refine congrArg (arrV c N) (funext fun j => ?_)
    simp [va_rf]
  | i + 1 => by
    show (Jvm.Free.Multi.outerC c N h0 i).setSlot i (.ref (h0 + 1 + i)) = _
    rw [vr_outer c N h0 i, arrV_store]
    refine congrArg (arrV c N) (funext fun j => ?_)
    by_cases e : j = i
    · subst e
      simp [updV, va_rf]
    · by_cases h : j < i
      · simp [updV, e, h, Nat.lt_succ_of_lt h]
      · simp [updV, e, h, show ¬ j < i + 1 by omega]
/-- (the printed names use this without defining it) an array class over arrays of ty -/
def va_AOA (ty : FieldType) (U : State) : Prop := (Cond.arrayOver (.array ty)).before #[] U = true
theorem va_AOA.use {ty : FieldType} {A : Array Value} {U : State} (h : va_AOA ty U) : (Cond.arrayOver (.array ty)).before A U = true := h
section VGM
variable {p : Program} {l : Launch} {e : Env} {R : Room} {s : State} {m : MethodId} {args : Array Value} {below : List Frame} {meth : Method} {c : Code} {H : Heap} {locs : List Loc} {cells slots : Nat} {Q : State → Prop}
variable {cc : ByteArray} {pc : Nat} {ls : Array Slot} {rest : List Value} {D : va_G} {cl : List vw_C} {A : Nat → Prop} {a : Nat} {tys : List (ClassId × FieldType)} {ws : va_W} {H0 : Heap}
theorem va_mna {X : va_W} {L : List Nat} {f : Nat → va_E} {cc : ByteArray} (hexec : p.tables.exec = Jvm.exec) (hb : c.code = cc) {own : String} {index : Nat} {ty : FieldType} {cy : ClassId} (hown : s.vm.findClass own = some m.cls) (hclink : (Cond.classLink own index ("[" ++ (FieldType.array ty).toString)).before args s = true) (hover : va_AOA ty s) (harr : (Cond.arrayClass ty).before args s = true) (hcy : s.vm.findClass (FieldType.array ty).toString = some cy)
    (hK : va_K D cl tys s) (hP : va_P D cl (X ++ va_pl L f) H) (hD : va_D A (X ++ va_pl L f)) (hS : va_S A H0 H locs) (hA : ∀ q, H0.size ≤ q → A q) {n k : Int32} {N' K' : Nat} {z : vp_A} (hn : ¬ n < 0) (hk : ¬ k < 0) (hN : n.toNatClampNeg = N') (hM : k.toNatClampNeg = K')
    (hb1 : N' * 4 ≤ 536870912) (hb2 : K' * componentBytes ty ≤ 536870912) (hb3 : K' ≤ 536870912) (hdf : fits ty (defaultValue ty) = true) (hdd : (defaultValue ty).isDefault = true) (hcells : cells + (1 + N') ≤ R.cells) (hslots : slots + (N' + N' * K') ≤ R.slots) (hz : ∀ c : ClassId, Jvm.Free.Multi.innerC c K' (defaultValue ty) = vp_cell c z) (hdg : decode cc pc = .ok (.multianewarray index 2, 4))
    (kk : ∀ (q : Nat) (r : Nat → Nat) (cA : ClassId) (H1 : Heap), (∀ i j : Nat, i < N' → j < N' → r i = r j → i = j) → (∀ i : Nat, i < N' → r i ∉ L) → va_K D cl (tys ++ [(cA, .array ty)]) s →
      va_P D cl ((X ++ [(q, .inl (cA, N', .inr (.inr (.inr (.inr (fun i => if i < N' then some (r i) else none))))))]) ++ va_pl (L ++ (List.range N').map r) (vr_up f ((List.range N').map r) (.inl (cy, z)))) H1 → va_D A ((X ++ [(q, .inl (cA, N', .inr (.inr (.inr (.inr (fun i => if i < N' then some (r i) else none))))))]) ++ va_pl (L ++ (List.range N').map r) (vr_up f ((List.range N').map r) (.inl (cy, z)))) → va_S A H0 H1 locs →
      W p l e R s m args below meth c H1 locs (cells + 1 + N') (slots + N' + N' * K') Q (F0 m (pc + 4) ls (.ref q :: rest))) : W p l e R s m args below meth c H locs cells slots Q (F0 m pc ls (.int k :: .int n :: rest)) := by
  subst hN
  subst hM
  intro T hT Xs
  obtain ⟨vm₁, cA, comp, -, fA, fC, hO, -, X', step⟩ := Xs.multianewarray2F hexec hown hclink (va_AOA.use hover) harr (g := F0 m pc ls (.int k :: .int n :: rest)) rfl (by rw [hb]; exact hdg) rfl hn hk hb1 hb2 hb3 hdf hdd hcells hslots
  have ec : some cy = some comp := hcy.symm.trans fC
  cases ec
  generalize hF : Jvm.Free.Multi.fill (T.setVm vm₁) cA cy n.toNatClampNeg k.toNatClampNeg (defaultValue ty) n.toNatClampNeg = F at X' step
  have hTh : (T.setVm vm₁).heap = H := hT
  obtain ⟨f1, f2, -, -⟩ := Jvm.Free.Multi.fill_facts (T.setVm vm₁) cA cy n.toNatClampNeg k.toNatClampNeg (defaultValue ty) n.toNatClampNeg
  rw [hF, hTh] at f1 f2
  have hold : ∀ x : Nat, x < H.size → F.heap[x]? = H[x]? := fun x hx => by
    have := Jvm.Free.Multi.fill_old (T.setVm vm₁) cA cy n.toNatClampNeg k.toNatClampNeg (defaultValue ty) (a := x) (by rw [hTh]; exact hx) n.toNatClampNeg
    rw [hF, hTh] at this
    exact this
  have hrow : ∀ j : Nat, j < n.toNatClampNeg → F.heap[H.size + 1 + j]? = some (vp_cell cy z) := fun j hj => by
    have := Jvm.Free.Multi.fill_inner (T.setVm vm₁) cA cy n.toNatClampNeg k.toNatClampNeg (defaultValue ty) n.toNatClampNeg j hj
    rw [hF, hTh, hz] at this
    exact this
  have hout : Jvm.Free.Multi.outerC cA n.toNatClampNeg H.size n.toNatClampNeg = vp_cell cA (n.toNatClampNeg, .inr (.inr (.inr (.inr (fun i => if i < n.toNatClampNeg then some (H.size + 1 + i) else none))))) := by
    rw [vp_cell_q]
    exact vr_outer cA n.toNatClampNeg H.size n.toNatClampNeg
  rw [hout] at f2
  have hlt : ∀ a, a ∈ L → a < H.size := fun a ha => by
    obtain ⟨k9, hk9⟩ := va_pl_get (X := X) (f := f) ha
    exact (hP k9 _ hk9).lt
  have hnl : ∀ i : Nat, i < n.toNatClampNeg → H.size + 1 + i ∉ L := fun i _ h => by
    have := hlt _ h
    omega
  have hnm : ∀ a, a ∈ (List.range n.toNatClampNeg).map (fun i => H.size + 1 + i) → a ∉ L := fun a ha h => by
    obtain ⟨i, -, rfl⟩ := List.mem_map.mp ha
    have := hlt _ h
    omega
  have hP0 : va_P D cl (X ++ va_pl L f) F.heap := hP.kept (fun k9 x hx => hold x.1 ((hP k9 x hx).lt))
  have hP1 : va_P D cl ((X ++ va_pl L f) ++ [(H.size, .inl (cA, n.toNatClampNeg, .inr (.inr (.inr (.inr (fun i => if i < n.toNatClampNeg then some (H.size + 1 + i) else none))))))]) F.heap := hP0.app (fun k9 x hx => by
    have h0 : k9 < 1 := (List.getElem?_eq_some_iff.mp hx).1
    rw [show k9 = 0 by omega] at hx
    cases hx
    exact f2)
  have hP2 : va_P D cl (((X ++ va_pl L f) ++ [(H.size, .inl (cA, n.toNatClampNeg, .inr (.inr (.inr (.inr (fun i => if i < n.toNatClampNeg then some (H.size + 1 + i) else none))))))]) ++ ((List.range n.toNatClampNeg).map (fun i => H.size + 1 + i)).map (fun a => (a, .inl (cy, z)))) F.heap := hP1.app (fun k9 x hx => by
    obtain ⟨a, ha, rfl⟩ := List.mem_map.mp (List.mem_of_getElem? hx)
    obtain ⟨i, hi, rfl⟩ := List.mem_map.mp ha
    exact hrow i (List.mem_range.mp hi))
  have hD2 : va_D A (((X ++ va_pl L f) ++ [(H.size, .inl (cA, n.toNatClampNeg, .inr (.inr (.inr (.inr (fun i => if i < n.toNatClampNeg then some (H.size + 1 + i) else none))))))]) ++ ((List.range n.toNatClampNeg).map (fun i => H.size + 1 + i)).map (fun a => (a, .inl (cy, z)))) := by
    have hD1 := hD.push (e := .inl (cA, n.toNatClampNeg, .inr (.inr (.inr (.inr (fun i => if i < n.toNatClampNeg then some (H.size + 1 + i) else none)))))) hP rfl (hA _ hS.1)
    generalize hW1 : (X ++ va_pl L f) ++ [(H.size, .inl (cA, n.toNatClampNeg, .inr (.inr (.inr (.inr (fun i => if i < n.toNatClampNeg then some (H.size + 1 + i) else none))))))] = W1 at hD1 hP1 ⊢
    have hle : ∀ (k9 : Nat) (x : Nat × va_E), W1[k9]? = some x → x.1 ≤ H.size := fun k9 x hx => by
      rw [← hW1] at hx
      by_cases hl : k9 < (X ++ va_pl L f).length
      · rw [List.getElem?_append_left hl] at hx
        exact Nat.le_of_lt ((hP k9 x hx).lt)
      · rw [List.getElem?_append_right (by omega)] at hx
        have h0 : k9 - (X ++ va_pl L f).length < 1 := (List.getElem?_eq_some_iff.mp hx).1
        rw [show k9 - (X ++ va_pl L f).length = 0 by omega] at hx
        cases hx
        exact Nat.le_refl _
    have hr : ∀ (k9 : Nat) (x : Nat × va_E), (((List.range n.toNatClampNeg).map (fun i => H.size + 1 + i)).map (fun a => ((a, .inl (cy, z)) : Nat × va_E)))[k9]? = some x → x.1 = H.size + 1 + k9 := fun k9 x hx => by
      rw [List.getElem?_map, List.getElem?_map] at hx
      by_cases h9 : k9 < n.toNatClampNeg
      · rw [List.getElem?_range h9] at hx
        cases hx
        rfl
      · have hn0 : (List.range n.toNatClampNeg)[k9]? = none := List.getElem?_eq_none (by rw [List.length_range]; omega)
        rw [hn0] at hx
        cases hx
    refine ⟨fun i j x y hi hj hxy => ?_, fun k9 x hx => ?_⟩
    · by_cases h1 : i < W1.length <;> by_cases h2 : j < W1.length
      · rw [List.getElem?_append_left h1] at hi
        rw [List.getElem?_append_left h2] at hj
        exact hD1.1 i j x y hi hj hxy
      · rw [List.getElem?_append_left h1] at hi
        rw [List.getElem?_append_right (by omega)] at hj
        have := hle _ _ hi
        have := hr _ _ hj
        omega
      · rw [List.getElem?_append_right (by omega)] at hi
        rw [List.getElem?_append_left h2] at hj
        have := hle _ _ hj
        have := hr _ _ hi
        omega
      · rw [List.getElem?_append_right (by omega)] at hi hj
        have := hr _ _ hi
        have := hr _ _ hj
        omega
    · by_cases h1 : k9 < W1.length
      · rw [List.getElem?_append_left h1] at hx
        exact hD1.2 k9 x hx
      · rw [List.getElem?_append_right (by omega)] at hx
        have := hr _ _ hx
        exact hA _ (by have := hS.1; omega)
  have hAr : ArrOfT s cA (.array ty) := fun N9 z9 => by
    obtain ⟨-, k9, hk9, cm9, hkk9⟩ := (hO 0 0 0).1
    exact ⟨(fun q hq => by cases hq), k9, hk9, cm9, hkk9⟩
  have hK2 : va_K D cl (tys ++ [(cA, .array ty)]) s := ⟨hK.1, fun k9 x hx => by
    by_cases hl : k9 < tys.length
    · rw [List.getElem?_append_left hl] at hx
      exact hK.2 k9 x hx
    · rw [List.getElem?_append_right (by omega)] at hx
      have h0 : k9 - tys.length < 1 := (List.getElem?_eq_some_iff.mp hx).1
      rw [show k9 - tys.length = 0 by omega] at hx
      cases hx
      exact ⟨hAr, fA⟩⟩
  obtain ⟨t, a1, b1⟩ := kk H.size (fun i => H.size + 1 + i) cA F.heap (fun i j _ _ h => by have h9 : H.size + 1 + i = H.size + 1 + j := h; omega) hnl hK2 (by rw [← vr_rows hnm]; exact vr_lay hP2) (by rw [← vr_rows hnm]; exact vr_layD hD2) ⟨by rw [f1]; have := hS.1; omega, fun x h1 h2 => (hold x (Nat.lt_of_lt_of_le h1 hS.1)).trans (hS.2.1 x h1 h2), hS.2.2⟩ F rfl X'
  refine ⟨t, step t ?_, b1⟩
  have e : T.heap.size = H.size := by rw [hT]
  rw [e]
  exact a1
end VGM
/-! ===== END ===== -/

/-! ===== BEGIN printed: names, fields, word lists, decode rows ===== -/
def RX0 : String := "AbbeyNotes$Image"
def TX0 : u_T := fun k => match k with
  | 0 => ("AbbeyNotes$Image", "realm", "LAbbeyNotes$Realm;", true)
  | 1 => ("AbbeyNotes$Image", "sights", "LAbbeyNotes$Sights;", true)
  | _ => ("AbbeyNotes$Image", "kept", "Z", false)
def tyX0 : Nat → FieldType := fun k => match k with
  | 0 => .object "AbbeyNotes$Realm"
  | 1 => .object "AbbeyNotes$Sights"
  | _ => .boolean
abbrev wsX00 : List Cond := u_ws RX0 TX0 3
theorem nmX0 : ∀ a, a < 3 → ∀ b, b < 3 → a ≠ b → (TX0 a).2.1 ≠ (TX0 b).2.1 := by decide +kernel
theorem tyX0_ok : ∀ k, k < 3 → parseFieldDescriptor (TX0 k).2.2.1 = some (tyX0 k) := by decide +kernel
abbrev cX0_init : ByteArray := prog_2_method_1_code
def yX0_init : MethodName := ⟨RX0, "<init>", "()V"⟩
def RX1 : String := "AbbeyNotes$Pad"
def TX1 : u_T := fun k => match k with
  | 0 => ("AbbeyNotes$Pad", "signs", "[I", true)
  | _ => ("AbbeyNotes$Pad", "size", "I", false)
def tyX1 : Nat → FieldType := fun k => match k with
  | 0 => .array .int
  | _ => .int
abbrev wsX10 : List Cond := u_ws RX1 TX1 2
theorem nmX1 : ∀ a, a < 2 → ∀ b, b < 2 → a ≠ b → (TX1 a).2.1 ≠ (TX1 b).2.1 := by decide +kernel
theorem tyX1_ok : ∀ k, k < 2 → parseFieldDescriptor (TX1 k).2.2.1 = some (tyX1 k) := by decide +kernel
abbrev cX1_init : ByteArray := prog_3_method_1_code
def yX1_init : MethodName := ⟨RX1, "<init>", "()V"⟩
abbrev cX1_add : ByteArray := prog_3_method_2_code
def yX1_add : MethodName := ⟨RX1, "add", "(I)V"⟩
abbrev cX1_signAt : ByteArray := prog_3_method_3_code
def yX1_signAt : MethodName := ⟨RX1, "signAt", "(I)I"⟩
abbrev cX1_faultPlace : ByteArray := prog_3_method_4_code
def yX1_faultPlace : MethodName := ⟨RX1, "faultPlace", "()I"⟩
abbrev cX1_nextBehind : ByteArray := prog_3_method_5_code
def yX1_nextBehind : MethodName := ⟨RX1, "nextBehind", "(II)I"⟩
abbrev cX1_nextBehindFirst : ByteArray := prog_3_method_6_code
def yX1_nextBehindFirst : MethodName := ⟨RX1, "nextBehindFirst", "(I)I"⟩
abbrev cX1_nextBehindDeed : ByteArray := prog_3_method_7_code
def yX1_nextBehindDeed : MethodName := ⟨RX1, "nextBehindDeed", "(I)I"⟩
abbrev cX1_isLetter : ByteArray := prog_3_method_8_code
def yX1_isLetter : MethodName := ⟨RX1, "isLetter", "(I)Z"⟩
def RX2 : String := "AbbeyNotes$Realm"
def TX2 : u_T := fun k => match k with
  | 0 => ("AbbeyNotes$Realm", "paper", "[I", true)
  | 1 => ("AbbeyNotes$Realm", "coin", "[I", true)
  | 2 => ("AbbeyNotes$Realm", "owes", "[[I", true)
  | 3 => ("AbbeyNotes$Realm", "price", "[I", true)
  | 4 => ("AbbeyNotes$Realm", "owner", "[I", true)
  | 5 => ("AbbeyNotes$Realm", "statePaper", "I", false)
  | 6 => ("AbbeyNotes$Realm", "forged", "I", false)
  | 7 => ("AbbeyNotes$Realm", "burnt", "I", false)
  | _ => ("AbbeyNotes$Realm", "months", "I", false)
def tyX2 : Nat → FieldType := fun k => match k with
  | 0 => .array .int
  | 1 => .array .int
  | 2 => .array (.array .int)
  | 3 => .array .int
  | 4 => .array .int
  | 5 => .int
  | 6 => .int
  | 7 => .int
  | _ => .int
abbrev wsX20 : List Cond := u_ws RX2 TX2 9
theorem nmX2 : ∀ a, a < 9 → ∀ b, b < 9 → a ≠ b → (TX2 a).2.1 ≠ (TX2 b).2.1 := by decide +kernel
theorem tyX2_ok : ∀ k, k < 9 → parseFieldDescriptor (TX2 k).2.2.1 = some (tyX2 k) := by decide +kernel
abbrev cX2_init : ByteArray := prog_4_method_1_code
def yX2_init : MethodName := ⟨RX2, "<init>", "()V"⟩
abbrev cX2_copyFrom : ByteArray := prog_4_method_2_code
def yX2_copyFrom : MethodName := ⟨RX2, "copyFrom", "(LAbbeyNotes$Realm;)V"⟩
abbrev cX2_notes : ByteArray := prog_4_method_3_code
def yX2_notes : MethodName := ⟨RX2, "notes", "()I"⟩
abbrev cX2_land : ByteArray := prog_4_method_4_code
def yX2_land : MethodName := ⟨RX2, "land", "()I"⟩
abbrev cX2_rate : ByteArray := prog_4_method_5_code
def yX2_rate : MethodName := ⟨RX2, "rate", "()I"⟩
abbrev cX2_priceOf : ByteArray := prog_4_method_6_code
def yX2_priceOf : MethodName := ⟨RX2, "priceOf", "(I)I"⟩
abbrev cX2_lotsOf : ByteArray := prog_4_method_7_code
def yX2_lotsOf : MethodName := ⟨RX2, "lotsOf", "(I)I"⟩
abbrev cX2_owesInAll : ByteArray := prog_4_method_8_code
def yX2_owesInAll : MethodName := ⟨RX2, "owesInAll", "(I)I"⟩
abbrev cX2_ofOne : ByteArray := prog_4_method_9_code
def yX2_ofOne : MethodName := ⟨RX2, "ofOne", "(II)I"⟩
abbrev cX2_act : ByteArray := prog_4_method_10_code
def yX2_act : MethodName := ⟨RX2, "act", "(III)I"⟩
abbrev cX2_printed : ByteArray := prog_4_method_11_code
def yX2_printed : MethodName := ⟨RX2, "printed", "(I)I"⟩
abbrev cX2_paidByState : ByteArray := prog_4_method_12_code
def yX2_paidByState : MethodName := ⟨RX2, "paidByState", "(II)I"⟩
abbrev cX2_bought : ByteArray := prog_4_method_13_code
def yX2_bought : MethodName := ⟨RX2, "bought", "(II)I"⟩
abbrev cX2_exchanged : ByteArray := prog_4_method_14_code
def yX2_exchanged : MethodName := ⟨RX2, "exchanged", "(II)I"⟩
abbrev cX2_settled : ByteArray := prog_4_method_15_code
def yX2_settled : MethodName := ⟨RX2, "settled", "(II)I"⟩
abbrev cX2_forgedFor : ByteArray := prog_4_method_16_code
def yX2_forgedFor : MethodName := ⟨RX2, "forgedFor", "(II)I"⟩
abbrev cX2_monthEnded : ByteArray := prog_4_method_17_code
def yX2_monthEnded : MethodName := ⟨RX2, "monthEnded", "()I"⟩
def RX3 : String := "AbbeyNotes$Settling"
def TX3 : u_T := fun k => match k with
  | 0 => ("AbbeyNotes$Settling", "due", "[I", true)
  | _ => ("AbbeyNotes$Settling", "groups", "[I", true)
def tyX3 : Nat → FieldType := fun k => match k with
  | 0 => .array .int
  | _ => .array .int
abbrev wsX30 : List Cond := u_ws RX3 TX3 2
theorem nmX3 : ∀ a, a < 2 → ∀ b, b < 2 → a ≠ b → (TX3 a).2.1 ≠ (TX3 b).2.1 := by decide +kernel
theorem tyX3_ok : ∀ k, k < 2 → parseFieldDescriptor (TX3 k).2.2.1 = some (tyX3 k) := by decide +kernel
abbrev cX3_init : ByteArray := prog_5_method_1_code
def yX3_init : MethodName := ⟨RX3, "<init>", "()V"⟩
abbrev cX3_weigh : ByteArray := prog_5_method_2_code
def yX3_weigh : MethodName := ⟨RX3, "weigh", "(LAbbeyNotes$Realm;)V"⟩
abbrev cX3_leastPaid : ByteArray := prog_5_method_3_code
def yX3_leastPaid : MethodName := ⟨RX3, "leastPaid", "()I"⟩
abbrev cX3_fewestPayments : ByteArray := prog_5_method_4_code
def yX3_fewestPayments : MethodName := ⟨RX3, "fewestPayments", "()I"⟩
abbrev cX3_dueTo : ByteArray := prog_5_method_5_code
def yX3_dueTo : MethodName := ⟨RX3, "dueTo", "(I)I"⟩
def RX4 : String := "AbbeyNotes$Sights"
def TX4 : u_T := fun k => match k with
  | 0 => ("AbbeyNotes$Sights", "chests", "[I", true)
  | 1 => ("AbbeyNotes$Sights", "many", "[I", true)
  | 2 => ("AbbeyNotes$Sights", "how", "[I", true)
  | 3 => ("AbbeyNotes$Sights", "untrue", "[I", true)
  | _ => ("AbbeyNotes$Sights", "size", "I", false)
def tyX4 : Nat → FieldType := fun k => match k with
  | 0 => .array .int
  | 1 => .array .int
  | 2 => .array .int
  | 3 => .array .int
  | _ => .int
abbrev wsX40 : List Cond := u_ws RX4 TX4 5
theorem nmX4 : ∀ a, a < 5 → ∀ b, b < 5 → a ≠ b → (TX4 a).2.1 ≠ (TX4 b).2.1 := by decide +kernel
theorem tyX4_ok : ∀ k, k < 5 → parseFieldDescriptor (TX4 k).2.2.1 = some (tyX4 k) := by decide +kernel
abbrev cX4_init : ByteArray := prog_6_method_1_code
def yX4_init : MethodName := ⟨RX4, "<init>", "()V"⟩
abbrev cX4_add : ByteArray := prog_6_method_2_code
def yX4_add : MethodName := ⟨RX4, "add", "(III)V"⟩
abbrev cX4_copyFrom : ByteArray := prog_6_method_3_code
def yX4_copyFrom : MethodName := ⟨RX4, "copyFrom", "(LAbbeyNotes$Sights;)V"⟩
abbrev cX4_fit : ByteArray := prog_6_method_4_code
def yX4_fit : MethodName := ⟨RX4, "fit", "(II)Z"⟩
abbrev cX4_tally : ByteArray := prog_6_method_5_code
def yX4_tally : MethodName := ⟨RX4, "tally", "(I)I"⟩
abbrev cX4_mostLeft : ByteArray := prog_6_method_6_code
def yX4_mostLeft : MethodName := ⟨RX4, "mostLeft", "(II)I"⟩
def RX5 : String := "AbbeyNotes$Trial"
def TX5 : u_T := fun k => match k with
  | 0 => ("AbbeyNotes$Trial", "realm", "LAbbeyNotes$Realm;", true)
  | 1 => ("AbbeyNotes$Trial", "acts", "I", false)
  | 2 => ("AbbeyNotes$Trial", "why", "I", false)
  | 3 => ("AbbeyNotes$Trial", "ended", "I", false)
  | 4 => ("AbbeyNotes$Trial", "fellIn", "I", false)
  | 5 => ("AbbeyNotes$Trial", "kind", "I", false)
  | 6 => ("AbbeyNotes$Trial", "who", "I", false)
  | 7 => ("AbbeyNotes$Trial", "number", "I", false)
  | _ => ("AbbeyNotes$Trial", "length", "I", false)
def tyX5 : Nat → FieldType := fun k => match k with
  | 0 => .object "AbbeyNotes$Realm"
  | 1 => .int
  | 2 => .int
  | 3 => .int
  | 4 => .int
  | 5 => .int
  | 6 => .int
  | 7 => .int
  | _ => .int
abbrev wsX50 : List Cond := u_ws RX5 TX5 9
theorem nmX5 : ∀ a, a < 9 → ∀ b, b < 9 → a ≠ b → (TX5 a).2.1 ≠ (TX5 b).2.1 := by decide +kernel
theorem tyX5_ok : ∀ k, k < 9 → parseFieldDescriptor (TX5 k).2.2.1 = some (tyX5 k) := by decide +kernel
abbrev cX5_init : ByteArray := prog_7_method_1_code
def yX5_init : MethodName := ⟨RX5, "<init>", "()V"⟩
abbrev cX5_follow : ByteArray := prog_7_method_2_code
def yX5_follow : MethodName := ⟨RX5, "follow", "(LAbbeyNotes$Pad;LAbbeyNotes$Realm;I)V"⟩
abbrev cX5_endMonth : ByteArray := prog_7_method_3_code
def yX5_endMonth : MethodName := ⟨RX5, "endMonth", "(I)V"⟩
abbrev cX5_read : ByteArray := prog_7_method_4_code
def yX5_read : MethodName := ⟨RX5, "read", "(LAbbeyNotes$Pad;I)V"⟩
abbrev cX5_kindOf : ByteArray := prog_7_method_5_code
def yX5_kindOf : MethodName := ⟨RX5, "kindOf", "(II)I"⟩
abbrev cX5_kindOfDeed : ByteArray := prog_7_method_6_code
def yX5_kindOfDeed : MethodName := ⟨RX5, "kindOfDeed", "(I)I"⟩
def RX6 : String := "AbbeyNotes$Waiting"
def TX6 : u_T := fun k => match k with
  | _ => ("AbbeyNotes$Waiting", "means", "[[J", true)
def tyX6 : Nat → FieldType := fun k => match k with
  | _ => .array (.array .long)
abbrev wsX60 : List Cond := u_ws RX6 TX6 1
theorem nmX6 : ∀ a, a < 1 → ∀ b, b < 1 → a ≠ b → (TX6 a).2.1 ≠ (TX6 b).2.1 := by decide +kernel
theorem tyX6_ok : ∀ k, k < 1 → parseFieldDescriptor (TX6 k).2.2.1 = some (tyX6 k) := by decide +kernel
abbrev cX6_init : ByteArray := prog_8_method_1_code
def yX6_init : MethodName := ⟨RX6, "<init>", "()V"⟩
abbrev cX6_scaledMean : ByteArray := prog_8_method_2_code
def yX6_scaledMean : MethodName := ⟨RX6, "scaledMean", "(III)J"⟩
def RX7 : String := "AbbeyNotes"
def TX7 : u_T := fun k => match k with
  | 0 => ("AbbeyNotes", "now", "LAbbeyNotes$Realm;", true)
  | 1 => ("AbbeyNotes", "sights", "LAbbeyNotes$Sights;", true)
  | 2 => ("AbbeyNotes", "pad", "LAbbeyNotes$Pad;", true)
  | 3 => ("AbbeyNotes", "trial", "LAbbeyNotes$Trial;", true)
  | 4 => ("AbbeyNotes", "settling", "LAbbeyNotes$Settling;", true)
  | 5 => ("AbbeyNotes", "waiting", "LAbbeyNotes$Waiting;", true)
  | _ => ("AbbeyNotes", "images", "[LAbbeyNotes$Image;", true)
def tyX7 : Nat → FieldType := fun k => match k with
  | 0 => .object "AbbeyNotes$Realm"
  | 1 => .object "AbbeyNotes$Sights"
  | 2 => .object "AbbeyNotes$Pad"
  | 3 => .object "AbbeyNotes$Trial"
  | 4 => .object "AbbeyNotes$Settling"
  | 5 => .object "AbbeyNotes$Waiting"
  | _ => .array (.object "AbbeyNotes$Image")
abbrev wsX70 : List Cond := u_ws RX7 TX7 7
theorem nmX7 : ∀ a, a < 7 → ∀ b, b < 7 → a ≠ b → (TX7 a).2.1 ≠ (TX7 b).2.1 := by decide +kernel
theorem tyX7_ok : ∀ k, k < 7 → parseFieldDescriptor (TX7 k).2.2.1 = some (tyX7 k) := by decide +kernel
abbrev cX7_init : ByteArray := prog_1_method_1_code
def yX7_init : MethodName := ⟨RX7, "<init>", "()V"⟩
abbrev cX7_one : ByteArray := prog_1_method_2_code
def yX7_one : MethodName := ⟨RX7, "one", "(III)I"⟩
abbrev cX7_owe : ByteArray := prog_1_method_3_code
def yX7_owe : MethodName := ⟨RX7, "owe", "(III)I"⟩
abbrev cX7_lot : ByteArray := prog_1_method_4_code
def yX7_lot : MethodName := ⟨RX7, "lot", "(III)I"⟩
abbrev cX7_set : ByteArray := prog_1_method_5_code
def yX7_set : MethodName := ⟨RX7, "set", "(II)I"⟩
abbrev cX7_say : ByteArray := prog_1_method_6_code
def yX7_say : MethodName := ⟨RX7, "say", "(I)I"⟩
abbrev cX7_wipe : ByteArray := prog_1_method_7_code
def yX7_wipe : MethodName := ⟨RX7, "wipe", "()I"⟩
abbrev cX7_fault : ByteArray := prog_1_method_8_code
def yX7_fault : MethodName := ⟨RX7, "fault", "()I"⟩
abbrev cX7_judge : ByteArray := prog_1_method_9_code
def yX7_judge : MethodName := ⟨RX7, "judge", "(I)I"⟩
abbrev cX7_behind : ByteArray := prog_1_method_10_code
def yX7_behind : MethodName := ⟨RX7, "behind", "(II)I"⟩
abbrev cX7_total : ByteArray := prog_1_method_11_code
def yX7_total : MethodName := ⟨RX7, "total", "(I)I"⟩
abbrev cX7_fell : ByteArray := prog_1_method_12_code
def yX7_fell : MethodName := ⟨RX7, "fell", "(I)I"⟩
abbrev cX7_done : ByteArray := prog_1_method_13_code
def yX7_done : MethodName := ⟨RX7, "done", "()I"⟩
abbrev cX7_struck : ByteArray := prog_1_method_14_code
def yX7_struck : MethodName := ⟨RX7, "struck", "(I)I"⟩
abbrev cX7_tryMonths : ByteArray := prog_1_method_15_code
def yX7_tryMonths : MethodName := ⟨RX7, "tryMonths", "(I)I"⟩
abbrev cX7_prints : ByteArray := prog_1_method_16_code
def yX7_prints : MethodName := ⟨RX7, "prints", "(I)I"⟩
abbrev cX7_buys : ByteArray := prog_1_method_17_code
def yX7_buys : MethodName := ⟨RX7, "buys", "(II)I"⟩
abbrev cX7_runs : ByteArray := prog_1_method_18_code
def yX7_runs : MethodName := ⟨RX7, "runs", "(III)I"⟩
abbrev cX7_wages : ByteArray := prog_1_method_19_code
def yX7_wages : MethodName := ⟨RX7, "wages", "(II)I"⟩
abbrev cX7_change : ByteArray := prog_1_method_20_code
def yX7_change : MethodName := ⟨RX7, "change", "(IIIII)J"⟩
abbrev cX7_sample : ByteArray := prog_1_method_21_code
def yX7_sample : MethodName := ⟨RX7, "sample", "(IIIII)J"⟩
abbrev cX7_seen : ByteArray := prog_1_method_22_code
def yX7_seen : MethodName := ⟨RX7, "seen", "(III)I"⟩
abbrev cX7_forget : ByteArray := prog_1_method_23_code
def yX7_forget : MethodName := ⟨RX7, "forget", "()I"⟩
abbrev cX7_clerks : ByteArray := prog_1_method_24_code
def yX7_clerks : MethodName := ⟨RX7, "clerks", "(II)I"⟩
abbrev cX7_count : ByteArray := prog_1_method_25_code
def yX7_count : MethodName := ⟨RX7, "count", "(II)I"⟩
abbrev cX7_year : ByteArray := prog_1_method_26_code
def yX7_year : MethodName := ⟨RX7, "year", "(III)I"⟩
abbrev cX7_image : ByteArray := prog_1_method_27_code
def yX7_image : MethodName := ⟨RX7, "image", "(I)I"⟩
abbrev cX7_restore : ByteArray := prog_1_method_28_code
def yX7_restore : MethodName := ⟨RX7, "restore", "(I)I"⟩
abbrev cX7_told : ByteArray := prog_1_method_29_code
def yX7_told : MethodName := ⟨RX7, "told", "(I)I"⟩
abbrev cX7_toldOfAll : ByteArray := prog_1_method_30_code
def yX7_toldOfAll : MethodName := ⟨RX7, "toldOfAll", "(I)I"⟩
abbrev cX7_toldOfOne : ByteArray := prog_1_method_31_code
def yX7_toldOfOne : MethodName := ⟨RX7, "toldOfOne", "(II)I"⟩
abbrev cX7_toldOfLot : ByteArray := prog_1_method_32_code
def yX7_toldOfLot : MethodName := ⟨RX7, "toldOfLot", "(II)I"⟩
abbrev cX7_toldOfDebt : ByteArray := prog_1_method_33_code
def yX7_toldOfDebt : MethodName := ⟨RX7, "toldOfDebt", "(II)I"⟩
abbrev cX7_within : ByteArray := prog_1_method_34_code
def yX7_within : MethodName := ⟨RX7, "within", "(III)Z"⟩
abbrev cX7_isOne : ByteArray := prog_1_method_35_code
def yX7_isOne : MethodName := ⟨RX7, "isOne", "(I)Z"⟩
abbrev cX7_rateOf : ByteArray := prog_1_method_36_code
def yX7_rateOf : MethodName := ⟨RX7, "rateOf", "(II)I"⟩
abbrev cX7_drawnNumber : ByteArray := prog_1_method_37_code
def yX7_drawnNumber : MethodName := ⟨RX7, "drawnNumber", "(II)I"⟩
abbrev cX7_choices : ByteArray := prog_1_method_38_code
def yX7_choices : MethodName := ⟨RX7, "choices", "(II)J"⟩
abbrev cX7_lowest : ByteArray := prog_1_method_39_code
def yX7_lowest : MethodName := ⟨RX7, "lowest", "(JJI)J"⟩
def RX8 : String := "AbbeyNotesModel"
def TX8 : u_T := fun k => match k with
  | 0 => ("AbbeyNotesModel", "paper", "[I", true)
  | 1 => ("AbbeyNotesModel", "coin", "[I", true)
  | 2 => ("AbbeyNotesModel", "owes", "[I", true)
  | 3 => ("AbbeyNotesModel", "price", "[I", true)
  | 4 => ("AbbeyNotesModel", "owner", "[I", true)
  | 5 => ("AbbeyNotesModel", "chest", "I", false)
  | 6 => ("AbbeyNotesModel", "forged", "I", false)
  | 7 => ("AbbeyNotesModel", "burnt", "I", false)
  | 8 => ("AbbeyNotesModel", "months", "I", false)
  | 9 => ("AbbeyNotesModel", "sightSet", "[I", true)
  | 10 => ("AbbeyNotesModel", "sightMany", "[I", true)
  | 11 => ("AbbeyNotesModel", "sightHow", "[I", true)
  | 12 => ("AbbeyNotesModel", "sights", "I", false)
  | 13 => ("AbbeyNotesModel", "pad", "[I", true)
  | 14 => ("AbbeyNotesModel", "padMany", "I", false)
  | 15 => ("AbbeyNotesModel", "act", "[I", true)
  | 16 => ("AbbeyNotesModel", "who", "[I", true)
  | 17 => ("AbbeyNotesModel", "much", "[I", true)
  | 18 => ("AbbeyNotesModel", "acts", "I", false)
  | 19 => ("AbbeyNotesModel", "had", "[I", true)
  | 20 => ("AbbeyNotesModel", "badAct", "I", false)
  | 21 => ("AbbeyNotesModel", "badWhy", "I", false)
  | 22 => ("AbbeyNotesModel", "endedMany", "I", false)
  | 23 => ("AbbeyNotesModel", "endRate", "[I", true)
  | 24 => ("AbbeyNotesModel", "net", "[I", true)
  | 25 => ("AbbeyNotesModel", "evenSets", "[I", true)
  | 26 => ("AbbeyNotesModel", "row", "[I", true)
  | 27 => ("AbbeyNotesModel", "brings", "[J", true)
  | 28 => ("AbbeyNotesModel", "bringsThen", "[J", true)
  | 29 => ("AbbeyNotesModel", "choose", "[J", true)
  | 30 => ("AbbeyNotesModel", "kept", "[I", true)
  | 31 => ("AbbeyNotesModel", "isKept", "[Z", true)
  | 32 => ("AbbeyNotesModel", "keptAt", "I", false)
  | _ => ("AbbeyNotesModel", "isWriting", "Z", false)
def tyX8 : Nat → FieldType := fun k => match k with
  | 0 => .array .int
  | 1 => .array .int
  | 2 => .array .int
  | 3 => .array .int
  | 4 => .array .int
  | 5 => .int
  | 6 => .int
  | 7 => .int
  | 8 => .int
  | 9 => .array .int
  | 10 => .array .int
  | 11 => .array .int
  | 12 => .int
  | 13 => .array .int
  | 14 => .int
  | 15 => .array .int
  | 16 => .array .int
  | 17 => .array .int
  | 18 => .int
  | 19 => .array .int
  | 20 => .int
  | 21 => .int
  | 22 => .int
  | 23 => .array .int
  | 24 => .array .int
  | 25 => .array .int
  | 26 => .array .int
  | 27 => .array .long
  | 28 => .array .long
  | 29 => .array .long
  | 30 => .array .int
  | 31 => .array .boolean
  | 32 => .int
  | _ => .boolean
abbrev wsX80 : List Cond := u_ws RX8 TX8 34
theorem nmX8 : ∀ a, a < 34 → ∀ b, b < 34 → a ≠ b → (TX8 a).2.1 ≠ (TX8 b).2.1 := by decide +kernel
theorem tyX8_ok : ∀ k, k < 34 → parseFieldDescriptor (TX8 k).2.2.1 = some (tyX8 k) := by decide +kernel
abbrev cX8_init : ByteArray := prog_10_method_1_code
def yX8_init : MethodName := ⟨RX8, "<init>", "()V"⟩
abbrev cX8_in : ByteArray := prog_10_method_3_code
def yX8_in : MethodName := ⟨RX8, "in", "(JJJ)Z"⟩
abbrev cX8_bitsOf : ByteArray := prog_10_method_4_code
def yX8_bitsOf : MethodName := ⟨RX8, "bitsOf", "(I)I"⟩
abbrev cX8_isOne : ByteArray := prog_10_method_5_code
def yX8_isOne : MethodName := ⟨RX8, "isOne", "(I)Z"⟩
abbrev cX8_one : ByteArray := prog_10_method_6_code
def yX8_one : MethodName := ⟨RX8, "one", "(III)I"⟩
abbrev cX8_owe : ByteArray := prog_10_method_7_code
def yX8_owe : MethodName := ⟨RX8, "owe", "(III)I"⟩
abbrev cX8_lot : ByteArray := prog_10_method_8_code
def yX8_lot : MethodName := ⟨RX8, "lot", "(III)I"⟩
abbrev cX8_set : ByteArray := prog_10_method_9_code
def yX8_set : MethodName := ⟨RX8, "set", "(II)I"⟩
abbrev cX8_say : ByteArray := prog_10_method_10_code
def yX8_say : MethodName := ⟨RX8, "say", "(I)I"⟩
abbrev cX8_wipe : ByteArray := prog_10_method_11_code
def yX8_wipe : MethodName := ⟨RX8, "wipe", "()I"⟩
abbrev cX8_close : ByteArray := prog_10_method_12_code
def yX8_close : MethodName := ⟨RX8, "close", "(II)I"⟩
abbrev cX8_isLetter : ByteArray := prog_10_method_13_code
def yX8_isLetter : MethodName := ⟨RX8, "isLetter", "(I)Z"⟩
abbrev cX8_begin : ByteArray := prog_10_method_14_code
def yX8_begin : MethodName := ⟨RX8, "begin", "(I)I"⟩
abbrev cX8_deed : ByteArray := prog_10_method_15_code
def yX8_deed : MethodName := ⟨RX8, "deed", "(I)I"⟩
abbrev cX8_forWhom : ByteArray := prog_10_method_16_code
def yX8_forWhom : MethodName := ⟨RX8, "forWhom", "(I)I"⟩
abbrev cX8_number : ByteArray := prog_10_method_17_code
def yX8_number : MethodName := ⟨RX8, "number", "(III)I"⟩
abbrev cX8_readOn : ByteArray := prog_10_method_18_code
def yX8_readOn : MethodName := ⟨RX8, "readOn", "(II)I"⟩
abbrev cX8_fault : ByteArray := prog_10_method_19_code
def yX8_fault : MethodName := ⟨RX8, "fault", "()I"⟩
abbrev cX8_notes : ByteArray := prog_10_method_20_code
def yX8_notes : MethodName := ⟨RX8, "notes", "()I"⟩
abbrev cX8_land : ByteArray := prog_10_method_21_code
def yX8_land : MethodName := ⟨RX8, "land", "()I"⟩
abbrev cX8_rateOf : ByteArray := prog_10_method_22_code
def yX8_rateOf : MethodName := ⟨RX8, "rateOf", "(IJ)I"⟩
abbrev cX8_rate : ByteArray := prog_10_method_23_code
def yX8_rate : MethodName := ⟨RX8, "rate", "()I"⟩
abbrev cX8_worth : ByteArray := prog_10_method_24_code
def yX8_worth : MethodName := ⟨RX8, "worth", "(I)I"⟩
abbrev cX8_payment : ByteArray := prog_10_method_25_code
def yX8_payment : MethodName := ⟨RX8, "payment", "(II)I"⟩
abbrev cX8_whyNotChange : ByteArray := prog_10_method_26_code
def yX8_whyNotChange : MethodName := ⟨RX8, "whyNotChange", "(II)I"⟩
abbrev cX8_whyNotPay : ByteArray := prog_10_method_27_code
def yX8_whyNotPay : MethodName := ⟨RX8, "whyNotPay", "(II)I"⟩
abbrev cX8_whyNot : ByteArray := prog_10_method_28_code
def yX8_whyNot : MethodName := ⟨RX8, "whyNot", "(III)I"⟩
abbrev cX8_swap : ByteArray := prog_10_method_29_code
def yX8_swap : MethodName := ⟨RX8, "swap", "(II)V"⟩
abbrev cX8_pay : ByteArray := prog_10_method_30_code
def yX8_pay : MethodName := ⟨RX8, "pay", "(II)V"⟩
abbrev cX8_buy : ByteArray := prog_10_method_31_code
def yX8_buy : MethodName := ⟨RX8, "buy", "(II)V"⟩
abbrev cX8_happen : ByteArray := prog_10_method_32_code
def yX8_happen : MethodName := ⟨RX8, "happen", "(III)V"⟩
abbrev cX8_keepNow : ByteArray := prog_10_method_33_code
def yX8_keepNow : MethodName := ⟨RX8, "keepNow", "()V"⟩
abbrev cX8_back : ByteArray := prog_10_method_34_code
def yX8_back : MethodName := ⟨RX8, "back", "(I)I"⟩
abbrev cX8_goMonths : ByteArray := prog_10_method_35_code
def yX8_goMonths : MethodName := ⟨RX8, "goMonths", "()V"⟩
abbrev cX8_refusal : ByteArray := prog_10_method_36_code
def yX8_refusal : MethodName := ⟨RX8, "refusal", "()I"⟩
abbrev cX8_judge : ByteArray := prog_10_method_37_code
def yX8_judge : MethodName := ⟨RX8, "judge", "(I)I"⟩
abbrev cX8_lotsOf : ByteArray := prog_10_method_38_code
def yX8_lotsOf : MethodName := ⟨RX8, "lotsOf", "(I)I"⟩
abbrev cX8_owesInAll : ByteArray := prog_10_method_39_code
def yX8_owesInAll : MethodName := ⟨RX8, "owesInAll", "(I)I"⟩
abbrev cX8_ofOne : ByteArray := prog_10_method_40_code
def yX8_ofOne : MethodName := ⟨RX8, "ofOne", "(II)I"⟩
abbrev cX8_behind : ByteArray := prog_10_method_41_code
def yX8_behind : MethodName := ⟨RX8, "behind", "(II)I"⟩
abbrev cX8_ofAll : ByteArray := prog_10_method_42_code
def yX8_ofAll : MethodName := ⟨RX8, "ofAll", "(I)I"⟩
abbrev cX8_total : ByteArray := prog_10_method_43_code
def yX8_total : MethodName := ⟨RX8, "total", "(I)I"⟩
abbrev cX8_fell : ByteArray := prog_10_method_44_code
def yX8_fell : MethodName := ⟨RX8, "fell", "(I)I"⟩
abbrev cX8_done : ByteArray := prog_10_method_45_code
def yX8_done : MethodName := ⟨RX8, "done", "()I"⟩
abbrev cX8_netOf : ByteArray := prog_10_method_46_code
def yX8_netOf : MethodName := ⟨RX8, "netOf", "(I)I"⟩
abbrev cX8_mostEven : ByteArray := prog_10_method_47_code
def yX8_mostEven : MethodName := ⟨RX8, "mostEven", "(I)I"⟩
abbrev cX8_struck : ByteArray := prog_10_method_48_code
def yX8_struck : MethodName := ⟨RX8, "struck", "(I)I"⟩
abbrev cX8_prints : ByteArray := prog_10_method_49_code
def yX8_prints : MethodName := ⟨RX8, "prints", "(I)I"⟩
abbrev cX8_pricesOf : ByteArray := prog_10_method_50_code
def yX8_pricesOf : MethodName := ⟨RX8, "pricesOf", "(I)I"⟩
abbrev cX8_buys : ByteArray := prog_10_method_51_code
def yX8_buys : MethodName := ⟨RX8, "buys", "(II)I"⟩
abbrev cX8_runs : ByteArray := prog_10_method_52_code
def yX8_runs : MethodName := ⟨RX8, "runs", "(III)I"⟩
abbrev cX8_wages : ByteArray := prog_10_method_53_code
def yX8_wages : MethodName := ⟨RX8, "wages", "(II)I"⟩
abbrev cX8_lowest : ByteArray := prog_10_method_54_code
def yX8_lowest : MethodName := ⟨RX8, "lowest", "(JJI)J"⟩
abbrev cX8_change : ByteArray := prog_10_method_55_code
def yX8_change : MethodName := ⟨RX8, "change", "(IIIII)J"⟩
abbrev cX8_chooseOf : ByteArray := prog_10_method_56_code
def yX8_chooseOf : MethodName := ⟨RX8, "chooseOf", "(II)J"⟩
abbrev cX8_sample : ByteArray := prog_10_method_57_code
def yX8_sample : MethodName := ⟨RX8, "sample", "(IIIII)J"⟩
abbrev cX8_seen : ByteArray := prog_10_method_58_code
def yX8_seen : MethodName := ⟨RX8, "seen", "(III)I"⟩
abbrev cX8_forget : ByteArray := prog_10_method_59_code
def yX8_forget : MethodName := ⟨RX8, "forget", "()I"⟩
abbrev cX8_fits : ByteArray := prog_10_method_60_code
def yX8_fits : MethodName := ⟨RX8, "fits", "(II)Z"⟩
abbrev cX8_clerks : ByteArray := prog_10_method_61_code
def yX8_clerks : MethodName := ⟨RX8, "clerks", "(II)I"⟩
abbrev cX8_mostLeft : ByteArray := prog_10_method_62_code
def yX8_mostLeft : MethodName := ⟨RX8, "mostLeft", "(II)I"⟩
abbrev cX8_count : ByteArray := prog_10_method_63_code
def yX8_count : MethodName := ⟨RX8, "count", "(II)I"⟩
abbrev cX8_actBy : ByteArray := prog_10_method_64_code
def yX8_actBy : MethodName := ⟨RX8, "actBy", "(I)I"⟩
abbrev cX8_muchBy : ByteArray := prog_10_method_65_code
def yX8_muchBy : MethodName := ⟨RX8, "muchBy", "(II)I"⟩
abbrev cX8_year : ByteArray := prog_10_method_66_code
def yX8_year : MethodName := ⟨RX8, "year", "(III)I"⟩
abbrev cX8_pass : ByteArray := prog_10_method_67_code
def yX8_pass : MethodName := ⟨RX8, "pass", "(I)I"⟩
abbrev cX8_passRow : ByteArray := prog_10_method_68_code
def yX8_passRow : MethodName := ⟨RX8, "passRow", "([II)V"⟩
abbrev cX8_passAll : ByteArray := prog_10_method_69_code
def yX8_passAll : MethodName := ⟨RX8, "passAll", "()V"⟩
abbrev cX8_image : ByteArray := prog_10_method_70_code
def yX8_image : MethodName := ⟨RX8, "image", "(I)I"⟩
abbrev cX8_restore : ByteArray := prog_10_method_71_code
def yX8_restore : MethodName := ⟨RX8, "restore", "(I)I"⟩
abbrev cX8_toldOfOne : ByteArray := prog_10_method_72_code
def yX8_toldOfOne : MethodName := ⟨RX8, "toldOfOne", "(II)I"⟩
abbrev cX8_toldOfAll : ByteArray := prog_10_method_73_code
def yX8_toldOfAll : MethodName := ⟨RX8, "toldOfAll", "(I)I"⟩
abbrev cX8_told : ByteArray := prog_10_method_74_code
def yX8_told : MethodName := ⟨RX8, "told", "(I)I"⟩
def RJ6 : String := "java/lang/Integer"
def TJ6 : u_T := fun k => match k with
  | _ => ("", "", "", false)
def tyJ6 : Nat → FieldType := fun k => match k with
  | _ => .int
abbrev wsJ60 : List Cond := u_ws RJ6 TJ6 0
theorem nmJ6 : ∀ a, a < 0 → ∀ b, b < 0 → a ≠ b → (TJ6 a).2.1 ≠ (TJ6 b).2.1 := by decide +kernel
theorem tyJ6_ok : ∀ k, k < 0 → parseFieldDescriptor (TJ6 k).2.2.1 = some (tyJ6 k) := by decide +kernel
abbrev cJ6_bitCount_0f7a4 : ByteArray := prog_11_method_49_code
def yJ6_bitCount_0f7a4 : MethodName := ⟨RJ6, "bitCount", "(I)I"⟩
def RJ9 : String := "java/lang/Math"
def TJ9 : u_T := fun k => match k with
  | _ => ("", "", "", false)
def tyJ9 : Nat → FieldType := fun k => match k with
  | _ => .int
abbrev wsJ90 : List Cond := u_ws RJ9 TJ9 0
theorem nmJ9 : ∀ a, a < 0 → ∀ b, b < 0 → a ≠ b → (TJ9 a).2.1 ≠ (TJ9 b).2.1 := by decide +kernel
theorem tyJ9_ok : ∀ k, k < 0 → parseFieldDescriptor (TJ9 k).2.2.1 = some (tyJ9 k) := by decide +kernel
abbrev cJ9_max_7cf53 : ByteArray := prog_12_method_65_code
def yJ9_max_7cf53 : MethodName := ⟨RJ9, "max", "(II)I"⟩
abbrev cJ9_max_f86c9 : ByteArray := prog_12_method_66_code
def yJ9_max_f86c9 : MethodName := ⟨RJ9, "max", "(JJ)J"⟩
abbrev cJ9_min_7cf53 : ByteArray := prog_12_method_69_code
def yJ9_min_7cf53 : MethodName := ⟨RJ9, "min", "(II)I"⟩
def RJ10 : String := "java/lang/System"
def TJ10 : u_T := fun k => match k with
  | _ => ("", "", "", false)
def tyJ10 : Nat → FieldType := fun k => match k with
  | _ => .int
abbrev wsJ100 : List Cond := u_ws RJ10 TJ10 0
theorem nmJ10 : ∀ a, a < 0 → ∀ b, b < 0 → a ≠ b → (TJ10 a).2.1 ≠ (TJ10 b).2.1 := by decide +kernel
theorem tyJ10_ok : ∀ k, k < 0 → parseFieldDescriptor (TJ10 k).2.2.1 = some (tyJ10 k) := by decide +kernel
def RL : String := "AbbeyNotesLaw"
abbrev cL_law : ByteArray := code
def yL_law : MethodName := ⟨RL, "law", "([I)Z"⟩
def wsL_law_r1 : List Cond := [Cond.classLink RL 7 RX7, Cond.instantiable RX7 7, Cond.initialized RX7, Cond.classLink RL 10 RX8, Cond.instantiable RX8 34, Cond.initialized RX8, Cond.methodLink RL 9 yX7_init, Cond.instanceMethod yX7_init, Cond.code yX7_init cX7_init 2 none, Cond.methodLink RX7 1 objectInit, Cond.instanceMethod objectInit, Cond.code objectInit ⟨#[0xb1]⟩ 1 none, Cond.classLink RX7 7 RX2, Cond.instantiable RX2 9, Cond.initialized RX2, Cond.fieldLink RX7 10 "AbbeyNotes" "now" "LAbbeyNotes$Realm;", Cond.classLink RX7 16 RX4, Cond.instantiable RX4 5, Cond.initialized RX4, Cond.fieldLink RX7 19 "AbbeyNotes" "sights" "LAbbeyNotes$Sights;", Cond.classLink RX7 23 RX1, Cond.instantiable RX1 2, Cond.initialized RX1, Cond.fieldLink RX7 26 "AbbeyNotes" "pad" "LAbbeyNotes$Pad;"]
def wsL_law_r2 : List Cond := [Cond.classLink RX7 30 RX5, Cond.instantiable RX5 9, Cond.initialized RX5, Cond.fieldLink RX7 33 "AbbeyNotes" "trial" "LAbbeyNotes$Trial;", Cond.classLink RX7 37 RX3, Cond.instantiable RX3 2, Cond.initialized RX3, Cond.fieldLink RX7 40 "AbbeyNotes" "settling" "LAbbeyNotes$Settling;", Cond.classLink RX7 44 RX6, Cond.instantiable RX6 1, Cond.initialized RX6, Cond.fieldLink RX7 47 "AbbeyNotes" "waiting" "LAbbeyNotes$Waiting;", Cond.classLink RX7 51 RX0, Cond.fieldLink RX7 53 "AbbeyNotes" "images" "[LAbbeyNotes$Image;", Cond.instantiable RX0 3, Cond.initialized RX0, Cond.methodLink RX7 9 yX2_init, Cond.instanceMethod yX2_init, Cond.code yX2_init cX2_init 2 none, Cond.methodLink RX2 3 objectInit, Cond.arrayClass .int, Cond.fieldLink RX2 9 "AbbeyNotes$Realm" "paper" "[I", Cond.fieldLink RX2 15 "AbbeyNotes$Realm" "coin" "[I", Cond.classLink RX2 18 "[[I"]
def wsL_law_r3 : List Cond := [Cond.fieldLink RX2 20 "AbbeyNotes$Realm" "owes" "[[I", Cond.fieldLink RX2 23 "AbbeyNotes$Realm" "price" "[I", Cond.fieldLink RX2 26 "AbbeyNotes$Realm" "owner" "[I", Cond.instanceMethod yX4_init, Cond.code yX4_init cX4_init 1 none, Cond.methodLink RX4 3 objectInit, Cond.fieldLink RX4 9 "AbbeyNotes$Sights" "chests" "[I", Cond.fieldLink RX4 15 "AbbeyNotes$Sights" "many" "[I", Cond.fieldLink RX4 18 "AbbeyNotes$Sights" "how" "[I", Cond.fieldLink RX4 21 "AbbeyNotes$Sights" "untrue" "[I", Cond.instanceMethod yX1_init, Cond.code yX1_init cX1_init 1 none, Cond.methodLink RX1 3 objectInit, Cond.fieldLink RX1 9 "AbbeyNotes$Pad" "signs" "[I", Cond.instanceMethod yX5_init, Cond.code yX5_init cX5_init 1 none, Cond.methodLink RX5 3 objectInit, Cond.classLink RX5 9 RX2, Cond.fieldLink RX5 12 "AbbeyNotes$Trial" "realm" "LAbbeyNotes$Realm;", Cond.methodLink RX5 11 yX2_init, Cond.instanceMethod yX3_init, Cond.code yX3_init cX3_init 1 none, Cond.methodLink RX3 3 objectInit, Cond.fieldLink RX3 9 "AbbeyNotes$Settling" "due" "[I"]
def wsL_law_r4 : List Cond := [Cond.fieldLink RX3 15 "AbbeyNotes$Settling" "groups" "[I", Cond.instanceMethod yX6_init, Cond.code yX6_init cX6_init 1 none, Cond.methodLink RX6 3 objectInit, Cond.classLink RX6 11 "[[J", Cond.arrayClass .long, Cond.fieldLink RX6 13 "AbbeyNotes$Waiting" "means" "[[J", Cond.instanceMethod yX0_init, Cond.code yX0_init cX0_init 1 none, Cond.methodLink RX0 1 objectInit, Cond.classLink RX0 7 RX2, Cond.fieldLink RX0 10 "AbbeyNotes$Image" "realm" "LAbbeyNotes$Realm;", Cond.classLink RX0 16 RX4, Cond.fieldLink RX0 19 "AbbeyNotes$Image" "sights" "LAbbeyNotes$Sights;", Cond.methodLink RX0 9 yX2_init, Cond.methodLink RL 12 yX8_init, Cond.instanceMethod yX8_init, Cond.code yX8_init cX8_init 2 none, Cond.methodLink RX8 1 objectInit, Cond.fieldLink RX8 7 "AbbeyNotesModel" "paper" "[I", Cond.fieldLink RX8 13 "AbbeyNotesModel" "coin" "[I", Cond.fieldLink RX8 16 "AbbeyNotesModel" "owes" "[I", Cond.fieldLink RX8 19 "AbbeyNotesModel" "price" "[I", Cond.fieldLink RX8 22 "AbbeyNotesModel" "owner" "[I"]
def wsL_law_r5 : List Cond := [Cond.fieldLink RX8 25 "AbbeyNotesModel" "sightSet" "[I", Cond.fieldLink RX8 28 "AbbeyNotesModel" "sightMany" "[I", Cond.fieldLink RX8 31 "AbbeyNotesModel" "sightHow" "[I", Cond.fieldLink RX8 34 "AbbeyNotesModel" "pad" "[I", Cond.fieldLink RX8 37 "AbbeyNotesModel" "act" "[I", Cond.fieldLink RX8 40 "AbbeyNotesModel" "who" "[I", Cond.fieldLink RX8 43 "AbbeyNotesModel" "much" "[I", Cond.fieldLink RX8 46 "AbbeyNotesModel" "had" "[I", Cond.fieldLink RX8 49 "AbbeyNotesModel" "endRate" "[I", Cond.fieldLink RX8 52 "AbbeyNotesModel" "net" "[I", Cond.fieldLink RX8 55 "AbbeyNotesModel" "evenSets" "[I", Cond.fieldLink RX8 58 "AbbeyNotesModel" "row" "[I", Cond.fieldLink RX8 61 "AbbeyNotesModel" "brings" "[J", Cond.fieldLink RX8 65 "AbbeyNotesModel" "bringsThen" "[J", Cond.fieldLink RX8 68 "AbbeyNotesModel" "choose" "[J", Cond.fieldLink RX8 71 "AbbeyNotesModel" "kept" "[I", Cond.arrayClass .boolean, Cond.fieldLink RX8 74 "AbbeyNotesModel" "isKept" "[Z", Cond.methodLink RL 13 yX7_one, Cond.instanceMethod yX7_one, Cond.selects RX7 yX7_one yX7_one, Cond.code yX7_one cX7_one 5 (some .int), Cond.fieldLink RX7 66 "AbbeyNotes$Realm" "paper" "[I", Cond.fieldLink RX7 70 "AbbeyNotes$Realm" "coin" "[I"]
def wsL_law_r6 : List Cond := [Cond.methodLink RX7 58 yX7_isOne, Cond.static yX7_isOne, Cond.code yX7_isOne cX7_isOne 1 (some .boolean), Cond.methodLink RX7 62 yX7_within, Cond.static yX7_within, Cond.code yX7_within cX7_within 3 (some .boolean), Cond.methodLink RL 17 yX8_one, Cond.instanceMethod yX8_one, Cond.selects RX8 yX8_one yX8_one, Cond.code yX8_one cX8_one 5 (some .int), Cond.constantLong RX8 88 (9999), Cond.methodLink RX8 84 yX8_isOne, Cond.static yX8_isOne, Cond.code yX8_isOne cX8_isOne 1 (some .boolean), Cond.constantLong RX8 78 (5), Cond.methodLink RX8 80 yX8_in, Cond.static yX8_in, Cond.code yX8_in cX8_in 6 (some .boolean), Cond.methodLink RL 18 yX7_owe, Cond.instanceMethod yX7_owe, Cond.selects RX7 yX7_owe yX7_owe, Cond.code yX7_owe cX7_owe 5 (some .int), Cond.fieldLink RX7 73 "AbbeyNotes$Realm" "owes" "[[I", Cond.methodLink RL 21 yX8_owe]
def wsL_law_r7 : List Cond := [Cond.instanceMethod yX8_owe, Cond.selects RX8 yX8_owe yX8_owe, Cond.code yX8_owe cX8_owe 5 (some .int), Cond.constantLong RX8 90 (999), Cond.methodLink RL 22 yX7_lot, Cond.instanceMethod yX7_lot, Cond.selects RX7 yX7_lot yX7_lot, Cond.code yX7_lot cX7_lot 5 (some .int), Cond.fieldLink RX7 77 "AbbeyNotes$Realm" "price" "[I", Cond.fieldLink RX7 80 "AbbeyNotes$Realm" "owner" "[I", Cond.methodLink RL 25 yX8_lot, Cond.instanceMethod yX8_lot, Cond.selects RX8 yX8_lot yX8_lot, Cond.code yX8_lot cX8_lot 5 (some .int), Cond.constantLong RX8 92 (7), Cond.constantLong RX8 94 (-1), Cond.methodLink RL 26 yX7_set, Cond.instanceMethod yX7_set, Cond.selects RX7 yX7_set yX7_set, Cond.code yX7_set cX7_set 4 (some .int), Cond.constant RX7 83 (99999), Cond.fieldLink RX7 84 "AbbeyNotes$Realm" "statePaper" "I", Cond.fieldLink RX7 88 "AbbeyNotes$Realm" "forged" "I", Cond.methodLink RL 30 yX8_set]
def wsL_law_r8 : List Cond := [Cond.instanceMethod yX8_set, Cond.selects RX8 yX8_set yX8_set, Cond.code yX8_set cX8_set 4 (some .int), Cond.constantLong RX8 96 (99999), Cond.fieldLink RX8 98 "AbbeyNotesModel" "chest" "I", Cond.fieldLink RX8 102 "AbbeyNotesModel" "forged" "I", Cond.methodLink RL 31 yX7_say, Cond.instanceMethod yX7_say, Cond.selects RX7 yX7_say yX7_say, Cond.code yX7_say cX7_say 2 (some .int), Cond.fieldLink RX7 91 "AbbeyNotes$Pad" "size" "I", Cond.methodLink RX7 94 yX1_add, Cond.instanceMethod yX1_add, Cond.selects RX1 yX1_add yX1_add, Cond.code yX1_add cX1_add 2 none, Cond.fieldLink RX1 15 "AbbeyNotes$Pad" "size" "I", Cond.methodLink RL 35 yX8_say, Cond.instanceMethod yX8_say, Cond.selects RX8 yX8_say yX8_say, Cond.code yX8_say cX8_say 2 (some .int), Cond.constantLong RX8 105 (33), Cond.constantLong RX8 107 (126), Cond.fieldLink RX8 109 "AbbeyNotesModel" "padMany" "I", Cond.methodLink RL 36 yX7_wipe]
def wsL_law_r9 : List Cond := [Cond.instanceMethod yX7_wipe, Cond.selects RX7 yX7_wipe yX7_wipe, Cond.code yX7_wipe cX7_wipe 2 (some .int), Cond.methodLink RL 40 yX8_wipe, Cond.instanceMethod yX8_wipe, Cond.selects RX8 yX8_wipe yX8_wipe, Cond.code yX8_wipe cX8_wipe 2 (some .int), Cond.methodLink RL 41 yX7_fault, Cond.instanceMethod yX7_fault, Cond.selects RX7 yX7_fault yX7_fault, Cond.code yX7_fault cX7_fault 1 (some .int), Cond.methodLink RX7 98 yX1_faultPlace, Cond.instanceMethod yX1_faultPlace, Cond.selects RX1 yX1_faultPlace yX1_faultPlace, Cond.code yX1_faultPlace cX1_faultPlace 3 (some .int), Cond.methodLink RX1 19 yX1_nextBehind, Cond.static yX1_nextBehind, Cond.code yX1_nextBehind cX1_nextBehind 2 (some .int), Cond.methodLink RX1 23 yX1_nextBehindFirst, Cond.static yX1_nextBehindFirst, Cond.code yX1_nextBehindFirst cX1_nextBehindFirst 1 (some .int), Cond.methodLink RX1 31 yX1_isLetter, Cond.static yX1_isLetter, Cond.code yX1_isLetter cX1_isLetter 1 (some .boolean)]
def wsL_law_r10 : List Cond := [Cond.methodLink RX1 35 yX1_nextBehindDeed, Cond.static yX1_nextBehindDeed, Cond.code yX1_nextBehindDeed cX1_nextBehindDeed 1 (some .int), Cond.methodLink RL 44 yX8_fault, Cond.instanceMethod yX8_fault, Cond.selects RX8 yX8_fault yX8_fault, Cond.code yX8_fault cX8_fault 3 (some .int), Cond.fieldLink RX8 112 "AbbeyNotesModel" "acts" "I", Cond.methodLink RX8 148 yX8_readOn, Cond.instanceMethod yX8_readOn, Cond.selects RX8 yX8_readOn yX8_readOn, Cond.code yX8_readOn cX8_readOn 3 (some .int), Cond.constantLong RX8 144 (48), Cond.constantLong RX8 146 (55), Cond.methodLink RX8 130 yX8_begin, Cond.instanceMethod yX8_begin, Cond.selects RX8 yX8_begin yX8_begin, Cond.code yX8_begin cX8_begin 2 (some .int), Cond.methodLink RX8 119 yX8_isLetter, Cond.static yX8_isLetter, Cond.code yX8_isLetter cX8_isLetter 1 (some .boolean), Cond.constantLong RX8 115 (65), Cond.constantLong RX8 117 (70), Cond.methodLink RX8 122 yX8_close]
def wsL_law_r11 : List Cond := [Cond.instanceMethod yX8_close, Cond.selects RX8 yX8_close yX8_close, Cond.code yX8_close cX8_close 3 (some .int), Cond.methodLink RX8 134 yX8_deed, Cond.static yX8_deed, Cond.code yX8_deed cX8_deed 1 (some .int), Cond.methodLink RX8 137 yX8_number, Cond.instanceMethod yX8_number, Cond.selects RX8 yX8_number yX8_number, Cond.code yX8_number cX8_number 4 (some .int), Cond.constantLong RX8 126 (49), Cond.constantLong RX8 128 (57), Cond.methodLink RX8 141 yX8_forWhom, Cond.instanceMethod yX8_forWhom, Cond.selects RX8 yX8_forWhom yX8_forWhom, Cond.code yX8_forWhom cX8_forWhom 2 (some .int), Cond.methodLink RL 45 yX7_judge, Cond.instanceMethod yX7_judge, Cond.selects RX7 yX7_judge yX7_judge, Cond.code yX7_judge cX7_judge 3 (some .int), Cond.fieldLink RX7 106 "AbbeyNotes$Trial" "ended" "I", Cond.fieldLink RX7 109 "AbbeyNotes$Trial" "why" "I", Cond.fieldLink RX7 112 "AbbeyNotes$Trial" "acts" "I", Cond.methodLink RX7 102 yX7_tryMonths]
def wsL_law_r12 : List Cond := [Cond.instanceMethod yX7_tryMonths, Cond.selects RX7 yX7_tryMonths yX7_tryMonths, Cond.code yX7_tryMonths cX7_tryMonths 2 (some .int), Cond.methodLink RX7 153 yX5_follow, Cond.instanceMethod yX5_follow, Cond.selects RX5 yX5_follow yX5_follow, Cond.code yX5_follow cX5_follow 5 none, Cond.fieldLink RX5 22 "AbbeyNotes$Trial" "why" "I", Cond.fieldLink RX5 26 "AbbeyNotes$Trial" "ended" "I", Cond.fieldLink RX5 29 "AbbeyNotes$Trial" "fellIn" "I", Cond.fieldLink RX5 32 "AbbeyNotes$Trial" "acts" "I", Cond.fieldLink RX5 35 "AbbeyNotes$Pad" "size" "I", Cond.fieldLink RX5 44 "AbbeyNotes$Trial" "kind" "I", Cond.fieldLink RX5 47 "AbbeyNotes$Trial" "who" "I", Cond.fieldLink RX5 50 "AbbeyNotes$Trial" "number" "I", Cond.fieldLink RX5 61 "AbbeyNotes$Trial" "length" "I", Cond.methodLink RX5 18 yX2_copyFrom, Cond.instanceMethod yX2_copyFrom, Cond.selects RX2 yX2_copyFrom yX2_copyFrom, Cond.code yX2_copyFrom cX2_copyFrom 3 none, Cond.methodLink RX2 29 arraycopyName, Cond.native arraycopyName, Cond.static arraycopyName, Cond.initialized "java/lang/System"]
def wsL_law_r13 : List Cond := [Cond.fieldLink RX2 35 "AbbeyNotes$Realm" "statePaper" "I", Cond.fieldLink RX2 39 "AbbeyNotes$Realm" "forged" "I", Cond.fieldLink RX2 42 "AbbeyNotes$Realm" "burnt" "I", Cond.fieldLink RX2 45 "AbbeyNotes$Realm" "months" "I", Cond.methodLink RX5 40 yX5_read, Cond.instanceMethod yX5_read, Cond.selects RX5 yX5_read yX5_read, Cond.code yX5_read cX5_read 5 none, Cond.methodLink RX5 68 yX1_signAt, Cond.instanceMethod yX1_signAt, Cond.selects RX1 yX1_signAt yX1_signAt, Cond.code yX1_signAt cX1_signAt 2 (some .int), Cond.methodLink RX5 72 yX5_kindOf, Cond.static yX5_kindOf, Cond.code yX5_kindOf cX5_kindOf 2 (some .int), Cond.methodLink RX5 76 yX5_kindOfDeed, Cond.static yX5_kindOfDeed, Cond.code yX5_kindOfDeed cX5_kindOfDeed 1 (some .int), Cond.methodLink RX5 53 yX2_act, Cond.instanceMethod yX2_act, Cond.selects RX2 yX2_act yX2_act, Cond.code yX2_act cX2_act 4 (some .int), Cond.methodLink RX2 66 yX2_printed, Cond.instanceMethod yX2_printed]
def wsL_law_r14 : List Cond := [Cond.selects RX2 yX2_printed yX2_printed, Cond.code yX2_printed cX2_printed 2 (some .int), Cond.constant RX2 87 (99999), Cond.methodLink RX2 69 yX2_paidByState, Cond.instanceMethod yX2_paidByState, Cond.selects RX2 yX2_paidByState yX2_paidByState, Cond.code yX2_paidByState cX2_paidByState 3 (some .int), Cond.methodLink RX2 72 yX2_bought, Cond.instanceMethod yX2_bought, Cond.selects RX2 yX2_bought yX2_bought, Cond.code yX2_bought cX2_bought 3 (some .int), Cond.methodLink RX2 75 yX2_exchanged, Cond.instanceMethod yX2_exchanged, Cond.selects RX2 yX2_exchanged yX2_exchanged, Cond.code yX2_exchanged cX2_exchanged 4 (some .int), Cond.methodLink RX2 88 yX2_rate, Cond.instanceMethod yX2_rate, Cond.selects RX2 yX2_rate yX2_rate, Cond.code yX2_rate cX2_rate 1 (some .int), Cond.methodLink RX2 48 yX2_land, Cond.instanceMethod yX2_land, Cond.selects RX2 yX2_land yX2_land, Cond.code yX2_land cX2_land 3 (some .int), Cond.methodLink RX2 52 yX2_notes]
def wsL_law_r15 : List Cond := [Cond.instanceMethod yX2_notes, Cond.selects RX2 yX2_notes yX2_notes, Cond.code yX2_notes cX2_notes 3 (some .int), Cond.static yX7_rateOf, Cond.code yX7_rateOf cX7_rateOf 2 (some .int), Cond.methodLink RX7 157 Lib.Math.min.name, Cond.static Lib.Math.min.name, Cond.initialized "java/lang/Math", Cond.code Lib.Math.min.name Lib.Math.min.code 2 (some .int), Cond.methodLink RX2 78 yX2_settled, Cond.instanceMethod yX2_settled, Cond.selects RX2 yX2_settled yX2_settled, Cond.code yX2_settled cX2_settled 4 (some .int), Cond.methodLink RX2 91 Lib.Math.min.name, Cond.methodLink RX2 81 yX2_forgedFor, Cond.instanceMethod yX2_forgedFor, Cond.selects RX2 yX2_forgedFor yX2_forgedFor, Cond.code yX2_forgedFor cX2_forgedFor 3 (some .int), Cond.methodLink RX2 84 yX2_monthEnded, Cond.instanceMethod yX2_monthEnded, Cond.selects RX2 yX2_monthEnded yX2_monthEnded, Cond.code yX2_monthEnded cX2_monthEnded 1 (some .int), Cond.methodLink RX5 57 yX5_endMonth, Cond.instanceMethod yX5_endMonth]
def wsL_law_r16 : List Cond := [Cond.selects RX5 yX5_endMonth yX5_endMonth, Cond.code yX5_endMonth cX5_endMonth 2 none, Cond.methodLink RX5 64 yX2_rate, Cond.methodLink RL 48 yX8_judge, Cond.instanceMethod yX8_judge, Cond.selects RX8 yX8_judge yX8_judge, Cond.code yX8_judge cX8_judge 3 (some .int), Cond.constantLong RX8 221 (2), Cond.fieldLink RX8 196 "AbbeyNotesModel" "badAct" "I", Cond.fieldLink RX8 199 "AbbeyNotesModel" "badWhy" "I", Cond.fieldLink RX8 202 "AbbeyNotesModel" "endedMany" "I", Cond.methodLink RX8 223 yX8_refusal, Cond.instanceMethod yX8_refusal, Cond.selects RX8 yX8_refusal yX8_refusal, Cond.code yX8_refusal cX8_refusal 1 (some .int), Cond.methodLink RX8 212 yX8_keepNow, Cond.instanceMethod yX8_keepNow, Cond.selects RX8 yX8_keepNow yX8_keepNow, Cond.code yX8_keepNow cX8_keepNow 2 none, Cond.fieldLink RX8 183 "AbbeyNotesModel" "burnt" "I", Cond.fieldLink RX8 180 "AbbeyNotesModel" "months" "I", Cond.methodLink RX8 215 yX8_fault, Cond.methodLink RX8 218 yX8_goMonths, Cond.instanceMethod yX8_goMonths]
def wsL_law_r17 : List Cond := [Cond.selects RX8 yX8_goMonths yX8_goMonths, Cond.code yX8_goMonths cX8_goMonths 3 none, Cond.methodLink RX8 205 yX8_whyNot, Cond.instanceMethod yX8_whyNot, Cond.selects RX8 yX8_whyNot yX8_whyNot, Cond.code yX8_whyNot cX8_whyNot 4 (some .int), Cond.constant RX8 170 (99999), Cond.methodLink RX8 174 yX8_whyNotChange, Cond.instanceMethod yX8_whyNotChange, Cond.selects RX8 yX8_whyNotChange yX8_whyNotChange, Cond.code yX8_whyNotChange cX8_whyNotChange 3 (some .int), Cond.methodLink RX8 167 yX8_worth, Cond.instanceMethod yX8_worth, Cond.selects RX8 yX8_worth yX8_worth, Cond.code yX8_worth cX8_worth 2 (some .int), Cond.methodLink RX8 164 yX8_rate, Cond.instanceMethod yX8_rate, Cond.selects RX8 yX8_rate yX8_rate, Cond.code yX8_rate cX8_rate 1 (some .int), Cond.methodLink RX8 153 yX8_land, Cond.instanceMethod yX8_land, Cond.selects RX8 yX8_land yX8_land, Cond.code yX8_land cX8_land 3 (some .int), Cond.methodLink RX8 157 yX8_notes]
def wsL_law_r18 : List Cond := [Cond.instanceMethod yX8_notes, Cond.selects RX8 yX8_notes yX8_notes, Cond.code yX8_notes cX8_notes 3 (some .int), Cond.methodLink RX8 160 yX8_rateOf, Cond.static yX8_rateOf, Cond.code yX8_rateOf cX8_rateOf 5 (some .int), Cond.constantLong RX8 151 (100), Cond.methodLink RX8 177 yX8_whyNotPay, Cond.instanceMethod yX8_whyNotPay, Cond.selects RX8 yX8_whyNotPay yX8_whyNotPay, Cond.code yX8_whyNotPay cX8_whyNotPay 4 (some .int), Cond.methodLink RX8 171 yX8_payment, Cond.instanceMethod yX8_payment, Cond.selects RX8 yX8_payment yX8_payment, Cond.code yX8_payment cX8_payment 4 (some .int), Cond.methodLink RX8 208 yX8_happen, Cond.instanceMethod yX8_happen, Cond.selects RX8 yX8_happen yX8_happen, Cond.code yX8_happen cX8_happen 4 none, Cond.methodLink RX8 186 yX8_buy, Cond.instanceMethod yX8_buy, Cond.selects RX8 yX8_buy yX8_buy, Cond.code yX8_buy cX8_buy 3 none, Cond.methodLink RX8 190 yX8_swap]
def wsL_law_r19 : List Cond := [Cond.instanceMethod yX8_swap, Cond.selects RX8 yX8_swap yX8_swap, Cond.code yX8_swap cX8_swap 3 none, Cond.methodLink RX8 193 yX8_pay, Cond.instanceMethod yX8_pay, Cond.selects RX8 yX8_pay yX8_pay, Cond.code yX8_pay cX8_pay 4 none, Cond.methodLink RX8 226 yX8_back, Cond.instanceMethod yX8_back, Cond.selects RX8 yX8_back yX8_back, Cond.code yX8_back cX8_back 3 (some .int), Cond.methodLink RL 49 yX7_behind, Cond.instanceMethod yX7_behind, Cond.selects RX7 yX7_behind yX7_behind, Cond.code yX7_behind cX7_behind 4 (some .int), Cond.fieldLink RX7 115 "AbbeyNotes$Trial" "realm" "LAbbeyNotes$Realm;", Cond.methodLink RX7 118 yX2_ofOne, Cond.instanceMethod yX2_ofOne, Cond.selects RX2 yX2_ofOne yX2_ofOne, Cond.code yX2_ofOne cX2_ofOne 3 (some .int), Cond.methodLink RX2 59 yX2_lotsOf, Cond.instanceMethod yX2_lotsOf, Cond.selects RX2 yX2_lotsOf yX2_lotsOf, Cond.code yX2_lotsOf cX2_lotsOf 4 (some .int)]
def wsL_law_r20 : List Cond := [Cond.methodLink RX2 63 yX2_owesInAll, Cond.instanceMethod yX2_owesInAll, Cond.selects RX2 yX2_owesInAll yX2_owesInAll, Cond.code yX2_owesInAll cX2_owesInAll 4 (some .int), Cond.methodLink RL 52 yX8_behind, Cond.instanceMethod yX8_behind, Cond.selects RX8 yX8_behind yX8_behind, Cond.code yX8_behind cX8_behind 4 (some .int), Cond.constantLong RX8 235 (3), Cond.methodLink RX8 237 yX8_ofOne, Cond.instanceMethod yX8_ofOne, Cond.selects RX8 yX8_ofOne yX8_ofOne, Cond.code yX8_ofOne cX8_ofOne 3 (some .int), Cond.methodLink RX8 229 yX8_lotsOf, Cond.instanceMethod yX8_lotsOf, Cond.selects RX8 yX8_lotsOf yX8_lotsOf, Cond.code yX8_lotsOf cX8_lotsOf 4 (some .int), Cond.methodLink RX8 232 yX8_owesInAll, Cond.instanceMethod yX8_owesInAll, Cond.selects RX8 yX8_owesInAll yX8_owesInAll, Cond.code yX8_owesInAll cX8_owesInAll 4 (some .int), Cond.methodLink RL 53 yX7_total, Cond.instanceMethod yX7_total, Cond.selects RX7 yX7_total yX7_total]
def wsL_law_r21 : List Cond := [Cond.code yX7_total cX7_total 3 (some .int), Cond.fieldLink RX7 131 "AbbeyNotes$Realm" "burnt" "I", Cond.fieldLink RX7 134 "AbbeyNotes$Realm" "months" "I", Cond.methodLink RX7 122 yX2_notes, Cond.methodLink RX7 125 yX2_land, Cond.methodLink RX7 128 yX2_rate, Cond.methodLink RL 56 yX8_total, Cond.instanceMethod yX8_total, Cond.selects RX8 yX8_total yX8_total, Cond.code yX8_total cX8_total 3 (some .int), Cond.methodLink RX8 240 yX8_ofAll, Cond.instanceMethod yX8_ofAll, Cond.selects RX8 yX8_ofAll yX8_ofAll, Cond.code yX8_ofAll cX8_ofAll 2 (some .int), Cond.methodLink RL 57 yX7_fell, Cond.instanceMethod yX7_fell, Cond.selects RX7 yX7_fell yX7_fell, Cond.code yX7_fell cX7_fell 3 (some .int), Cond.fieldLink RX7 137 "AbbeyNotes$Trial" "fellIn" "I", Cond.methodLink RL 60 yX8_fell, Cond.instanceMethod yX8_fell, Cond.selects RX8 yX8_fell yX8_fell, Cond.code yX8_fell cX8_fell 4 (some .int), Cond.methodLink RL 61 yX7_done]
def wsL_law_r22 : List Cond := [Cond.instanceMethod yX7_done, Cond.selects RX7 yX7_done yX7_done, Cond.code yX7_done cX7_done 2 (some .int), Cond.methodLink RX7 140 yX2_copyFrom, Cond.methodLink RL 64 yX8_done, Cond.instanceMethod yX8_done, Cond.selects RX8 yX8_done yX8_done, Cond.code yX8_done cX8_done 2 (some .int), Cond.methodLink RL 65 yX7_struck, Cond.instanceMethod yX7_struck, Cond.selects RX7 yX7_struck yX7_struck, Cond.code yX7_struck cX7_struck 2 (some .int), Cond.methodLink RX7 144 yX3_weigh, Cond.instanceMethod yX3_weigh, Cond.selects RX3 yX3_weigh yX3_weigh, Cond.code yX3_weigh cX3_weigh 4 none, Cond.fieldLink RX3 24 "AbbeyNotes$Realm" "owes" "[[I", Cond.methodLink RX3 18 yX2_owesInAll, Cond.methodLink RX7 147 yX3_fewestPayments, Cond.instanceMethod yX3_fewestPayments, Cond.selects RX3 yX3_fewestPayments yX3_fewestPayments, Cond.code yX3_fewestPayments cX3_fewestPayments 5 (some .int), Cond.methodLink RX3 28 Lib.Math.max.name, Cond.static Lib.Math.max.name]
def wsL_law_r23 : List Cond := [Cond.code Lib.Math.max.name Lib.Math.max.code 2 (some .int), Cond.methodLink RX3 34 yX3_dueTo, Cond.instanceMethod yX3_dueTo, Cond.selects RX3 yX3_dueTo yX3_dueTo, Cond.code yX3_dueTo cX3_dueTo 4 (some .int), Cond.methodLink RX7 150 yX3_leastPaid, Cond.instanceMethod yX3_leastPaid, Cond.selects RX3 yX3_leastPaid yX3_leastPaid, Cond.code yX3_leastPaid cX3_leastPaid 3 (some .int), Cond.methodLink RL 68 yX8_struck, Cond.instanceMethod yX8_struck, Cond.selects RX8 yX8_struck yX8_struck, Cond.code yX8_struck cX8_struck 5 (some .int), Cond.methodLink RX8 246 yX8_mostEven, Cond.instanceMethod yX8_mostEven, Cond.selects RX8 yX8_mostEven yX8_mostEven, Cond.code yX8_mostEven cX8_mostEven 6 (some .int), Cond.methodLink RX8 243 yX8_netOf, Cond.instanceMethod yX8_netOf, Cond.selects RX8 yX8_netOf yX8_netOf, Cond.code yX8_netOf cX8_netOf 4 (some .int), Cond.methodLink RL 69 yX7_prints, Cond.instanceMethod yX7_prints, Cond.selects RX7 yX7_prints yX7_prints]
def wsL_law_r24 : List Cond := [Cond.code yX7_prints cX7_prints 4 (some .int), Cond.methodLink RL 72 yX8_prints, Cond.instanceMethod yX8_prints, Cond.selects RX8 yX8_prints yX8_prints, Cond.code yX8_prints cX8_prints 4 (some .int), Cond.methodLink RL 73 yX7_buys, Cond.instanceMethod yX7_buys, Cond.selects RX7 yX7_buys yX7_buys, Cond.code yX7_buys cX7_buys 8 (some .int), Cond.methodLink RX7 162 yX2_lotsOf, Cond.methodLink RX7 165 yX2_priceOf, Cond.instanceMethod yX2_priceOf, Cond.selects RX2 yX2_priceOf yX2_priceOf, Cond.code yX2_priceOf cX2_priceOf 4 (some .int), Cond.methodLink RL 76 yX8_buys, Cond.instanceMethod yX8_buys, Cond.selects RX8 yX8_buys yX8_buys, Cond.code yX8_buys cX8_buys 7 (some .int), Cond.methodLink RX8 249 yX8_pricesOf, Cond.instanceMethod yX8_pricesOf, Cond.selects RX8 yX8_pricesOf yX8_pricesOf, Cond.code yX8_pricesOf cX8_pricesOf 4 (some .int), Cond.methodLink RL 77 yX7_runs, Cond.instanceMethod yX7_runs]
def wsL_law_r25 : List Cond := [Cond.selects RX7 yX7_runs yX7_runs, Cond.code yX7_runs cX7_runs 8 (some .int), Cond.methodLink RX7 168 yX7_rateOf, Cond.methodLink RL 80 yX8_runs, Cond.instanceMethod yX8_runs, Cond.selects RX8 yX8_runs yX8_runs, Cond.code yX8_runs cX8_runs 8 (some .int), Cond.constantLong RX8 252 (99), Cond.methodLink RL 81 yX7_wages, Cond.instanceMethod yX7_wages, Cond.selects RX7 yX7_wages yX7_wages, Cond.code yX7_wages cX7_wages 8 (some .int), Cond.constant RX7 171 (999999999), Cond.methodLink RX7 172 Lib.Math.max.name, Cond.methodLink RL 84 yX8_wages, Cond.instanceMethod yX8_wages, Cond.selects RX8 yX8_wages yX8_wages, Cond.code yX8_wages cX8_wages 7 (some .int), Cond.constantLong RX8 254 (999999999), Cond.constantLong RX8 256 (8), Cond.methodLink RL 85 yX7_change, Cond.instanceMethod yX7_change, Cond.selects RX7 yX7_change yX7_change, Cond.code yX7_change cX7_change 10 (some .long)]
def wsL_law_r26 : List Cond := [Cond.constantLong RX7 175 (-1000000000000000002), Cond.constantLong RX7 177 (10), Cond.methodLink RX7 179 yX6_scaledMean, Cond.instanceMethod yX6_scaledMean, Cond.selects RX6 yX6_scaledMean yX6_scaledMean, Cond.code yX6_scaledMean cX6_scaledMean 12 (some .long), Cond.constantLong RX6 16 (10), Cond.methodLink RX6 18 Lib.Math.max.name, Cond.methodLink RX6 24 Lib.MathLoose.max_long.x, Cond.static Lib.MathLoose.max_long.x, Cond.code Lib.MathLoose.max_long.x Lib.MathLoose.max_long.code 4 (some .long), Cond.methodLink RX7 183 yX7_lowest, Cond.static yX7_lowest, Cond.code yX7_lowest cX7_lowest 12 (some .long), Cond.methodLink RL 89 yX8_change, Cond.instanceMethod yX8_change, Cond.selects RX8 yX8_change yX8_change, Cond.code yX8_change cX8_change 13 (some .long), Cond.constantLong RX8 258 (60), Cond.constantLong RX8 260 (10), Cond.constantLong RX8 262 (-1000000000000000002), Cond.methodLink RX8 264 yX8_lowest, Cond.static yX8_lowest, Cond.code yX8_lowest cX8_lowest 11 (some .long)]
def wsL_law_r27 : List Cond := [Cond.methodLink RL 90 yX7_sample, Cond.instanceMethod yX7_sample, Cond.selects RX7 yX7_sample yX7_sample, Cond.code yX7_sample cX7_sample 6 (some .long), Cond.methodLink RX7 187 yX7_choices, Cond.static yX7_choices, Cond.code yX7_choices cX7_choices 5 (some .long), Cond.methodLink RL 93 yX8_sample, Cond.instanceMethod yX8_sample, Cond.selects RX8 yX8_sample yX8_sample, Cond.code yX8_sample cX8_sample 6 (some .long), Cond.constantLong RX8 268 (30), Cond.methodLink RX8 270 yX8_chooseOf, Cond.instanceMethod yX8_chooseOf, Cond.selects RX8 yX8_chooseOf yX8_chooseOf, Cond.code yX8_chooseOf cX8_chooseOf 5 (some .long), Cond.methodLink RL 94 yX7_seen, Cond.instanceMethod yX7_seen, Cond.selects RX7 yX7_seen yX7_seen, Cond.code yX7_seen cX7_seen 4 (some .int), Cond.fieldLink RX7 191 "AbbeyNotes$Sights" "size" "I", Cond.methodLink RX7 192 yX4_add, Cond.instanceMethod yX4_add, Cond.selects RX4 yX4_add yX4_add]
def wsL_law_r28 : List Cond := [Cond.code yX4_add cX4_add 4 none, Cond.fieldLink RX4 24 "AbbeyNotes$Sights" "size" "I", Cond.methodLink RL 97 yX8_seen, Cond.instanceMethod yX8_seen, Cond.selects RX8 yX8_seen yX8_seen, Cond.code yX8_seen cX8_seen 4 (some .int), Cond.constantLong RX8 274 (255), Cond.fieldLink RX8 276 "AbbeyNotesModel" "sights" "I", Cond.methodLink RL 98 yX7_forget, Cond.instanceMethod yX7_forget, Cond.selects RX7 yX7_forget yX7_forget, Cond.code yX7_forget cX7_forget 2 (some .int), Cond.methodLink RL 101 yX8_forget, Cond.instanceMethod yX8_forget, Cond.selects RX8 yX8_forget yX8_forget, Cond.code yX8_forget cX8_forget 2 (some .int), Cond.methodLink RL 102 yX7_clerks, Cond.instanceMethod yX7_clerks, Cond.selects RX7 yX7_clerks yX7_clerks, Cond.code yX7_clerks cX7_clerks 5 (some .int), Cond.methodLink RX7 195 yX4_fit, Cond.instanceMethod yX4_fit, Cond.selects RX4 yX4_fit yX4_fit, Cond.code yX4_fit cX4_fit 5 (some .boolean)]
def wsL_law_r29 : List Cond := [Cond.methodLink RX4 34 yJ6_bitCount_0f7a4, Cond.static yJ6_bitCount_0f7a4, Cond.initialized RJ6, Cond.code yJ6_bitCount_0f7a4 cJ6_bitCount_0f7a4 1 (some .int), Cond.constant RJ6 265 (1431655765), Cond.constant RJ6 266 (858993459), Cond.constant RJ6 267 (252645135), Cond.methodLink RL 105 yX8_clerks, Cond.instanceMethod yX8_clerks, Cond.selects RX8 yX8_clerks yX8_clerks, Cond.code yX8_clerks cX8_clerks 5 (some .int), Cond.methodLink RX8 282 yX8_fits, Cond.instanceMethod yX8_fits, Cond.selects RX8 yX8_fits yX8_fits, Cond.code yX8_fits cX8_fits 6 (some .boolean), Cond.methodLink RX8 279 yX8_bitsOf, Cond.static yX8_bitsOf, Cond.code yX8_bitsOf cX8_bitsOf 3 (some .int), Cond.methodLink RL 106 yX7_count, Cond.instanceMethod yX7_count, Cond.selects RX7 yX7_count yX7_count, Cond.code yX7_count cX7_count 6 (some .int), Cond.methodLink RX7 199 yX4_tally, Cond.instanceMethod yX4_tally]
def wsL_law_r30 : List Cond := [Cond.selects RX4 yX4_tally yX4_tally, Cond.code yX4_tally cX4_tally 5 (some .int), Cond.methodLink RX4 40 yX4_fit, Cond.methodLink RX7 202 yX4_mostLeft, Cond.instanceMethod yX4_mostLeft, Cond.selects RX4 yX4_mostLeft yX4_mostLeft, Cond.code yX4_mostLeft cX4_mostLeft 3 (some .int), Cond.methodLink RX4 44 Lib.Math.max.name, Cond.methodLink RL 109 yX8_count, Cond.instanceMethod yX8_count, Cond.selects RX8 yX8_count yX8_count, Cond.code yX8_count cX8_count 7 (some .int), Cond.methodLink RX8 286 yX8_mostLeft, Cond.instanceMethod yX8_mostLeft, Cond.selects RX8 yX8_mostLeft yX8_mostLeft, Cond.code yX8_mostLeft cX8_mostLeft 7 (some .int), Cond.methodLink RL 110 yX7_year, Cond.instanceMethod yX7_year, Cond.selects RX7 yX7_year yX7_year, Cond.code yX7_year cX7_year 8 (some .int), Cond.constant RX7 205 (65537), Cond.methodLink RX7 206 yX7_drawnNumber, Cond.static yX7_drawnNumber, Cond.code yX7_drawnNumber cX7_drawnNumber 2 (some .int)]
def wsL_law_r31 : List Cond := [Cond.methodLink RX7 209 yX2_act, Cond.methodLink RX7 213 yJ6_bitCount_0f7a4, Cond.methodLink RL 113 yX8_year, Cond.instanceMethod yX8_year, Cond.selects RX8 yX8_year yX8_year, Cond.code yX8_year cX8_year 9 (some .int), Cond.constantLong RX8 289 (75), Cond.constantLong RX8 291 (74), Cond.constantLong RX8 293 (65537), Cond.methodLink RX8 295 yX8_actBy, Cond.static yX8_actBy, Cond.code yX8_actBy cX8_actBy 1 (some .int), Cond.methodLink RX8 298 yX8_muchBy, Cond.static yX8_muchBy, Cond.code yX8_muchBy cX8_muchBy 2 (some .int), Cond.methodLink RL 114 yX7_image, Cond.instanceMethod yX7_image, Cond.selects RX7 yX7_image yX7_image, Cond.code yX7_image cX7_image 2 (some .int), Cond.fieldLink RX7 218 "AbbeyNotes$Image" "realm" "LAbbeyNotes$Realm;", Cond.fieldLink RX7 219 "AbbeyNotes$Image" "sights" "LAbbeyNotes$Sights;", Cond.fieldLink RX7 223 "AbbeyNotes$Image" "kept" "Z", Cond.methodLink RX7 220 yX4_copyFrom, Cond.instanceMethod yX4_copyFrom]
def wsL_law_r32 : List Cond := [Cond.selects RX4 yX4_copyFrom yX4_copyFrom, Cond.code yX4_copyFrom cX4_copyFrom 2 none, Cond.methodLink RX4 28 arraycopyName, Cond.methodLink RL 117 yX8_image, Cond.instanceMethod yX8_image, Cond.selects RX8 yX8_image yX8_image, Cond.code yX8_image cX8_image 2 (some .int), Cond.fieldLink RX8 305 "AbbeyNotesModel" "keptAt" "I", Cond.fieldLink RX8 301 "AbbeyNotesModel" "isWriting" "Z", Cond.methodLink RX8 315 yX8_passAll, Cond.instanceMethod yX8_passAll, Cond.selects RX8 yX8_passAll yX8_passAll, Cond.code yX8_passAll cX8_passAll 1 none, Cond.methodLink RX8 308 yX8_pass, Cond.instanceMethod yX8_pass, Cond.selects RX8 yX8_pass yX8_pass, Cond.code yX8_pass cX8_pass 3 (some .int), Cond.methodLink RX8 311 yX8_passRow, Cond.instanceMethod yX8_passRow, Cond.selects RX8 yX8_passRow yX8_passRow, Cond.code yX8_passRow cX8_passRow 4 none, Cond.methodLink RL 118 yX7_restore, Cond.instanceMethod yX7_restore, Cond.selects RX7 yX7_restore yX7_restore]
def wsL_law_r33 : List Cond := [Cond.code yX7_restore cX7_restore 2 (some .int), Cond.methodLink RL 121 yX8_restore, Cond.instanceMethod yX8_restore, Cond.selects RX8 yX8_restore yX8_restore, Cond.code yX8_restore cX8_restore 2 (some .int), Cond.methodLink RL 122 yX7_told, Cond.instanceMethod yX7_told, Cond.selects RX7 yX7_told yX7_told, Cond.code yX7_told cX7_told 3 (some .int), Cond.methodLink RX7 227 yX7_toldOfAll, Cond.instanceMethod yX7_toldOfAll, Cond.selects RX7 yX7_toldOfAll yX7_toldOfAll, Cond.code yX7_toldOfAll cX7_toldOfAll 2 (some .int), Cond.methodLink RX7 230 yX7_toldOfOne, Cond.instanceMethod yX7_toldOfOne, Cond.selects RX7 yX7_toldOfOne yX7_toldOfOne, Cond.code yX7_toldOfOne cX7_toldOfOne 3 (some .int), Cond.methodLink RX7 233 yX7_toldOfLot, Cond.instanceMethod yX7_toldOfLot, Cond.selects RX7 yX7_toldOfLot yX7_toldOfLot, Cond.code yX7_toldOfLot cX7_toldOfLot 3 (some .int), Cond.methodLink RX7 236 yX7_toldOfDebt, Cond.instanceMethod yX7_toldOfDebt, Cond.selects RX7 yX7_toldOfDebt yX7_toldOfDebt]
def wsL_law_r34 : List Cond := [Cond.code yX7_toldOfDebt cX7_toldOfDebt 3 (some .int), Cond.methodLink RL 125 yX8_told, Cond.instanceMethod yX8_told, Cond.selects RX8 yX8_told yX8_told, Cond.code yX8_told cX8_told 3 (some .int), Cond.constantLong RX8 318 (200), Cond.constantLong RX8 320 (259), Cond.constantLong RX8 322 (179), Cond.constantLong RX8 324 (69), Cond.methodLink RX8 326 yX8_toldOfOne, Cond.instanceMethod yX8_toldOfOne, Cond.selects RX8 yX8_toldOfOne yX8_toldOfOne, Cond.code yX8_toldOfOne cX8_toldOfOne 3 (some .int), Cond.methodLink RX8 329 yX8_toldOfAll, Cond.instanceMethod yX8_toldOfAll, Cond.selects RX8 yX8_toldOfAll yX8_toldOfAll, Cond.code yX8_toldOfAll cX8_toldOfAll 2 (some .int)]
def wsL_law : List Cond := (wsL_law_r1 ++ (wsL_law_r2 ++ (wsL_law_r3 ++ (wsL_law_r4 ++ (wsL_law_r5 ++ (wsL_law_r6 ++ (wsL_law_r7 ++ (wsL_law_r8 ++ (wsL_law_r9 ++ (wsL_law_r10 ++ (wsL_law_r11 ++ (wsL_law_r12 ++ (wsL_law_r13 ++ (wsL_law_r14 ++ (wsL_law_r15 ++ (wsL_law_r16 ++ (wsL_law_r17 ++ (wsL_law_r18 ++ (wsL_law_r19 ++ (wsL_law_r20 ++ (wsL_law_r21 ++ (wsL_law_r22 ++ (wsL_law_r23 ++ (wsL_law_r24 ++ (wsL_law_r25 ++ (wsL_law_r26 ++ (wsL_law_r27 ++ (wsL_law_r28 ++ (wsL_law_r29 ++ (wsL_law_r30 ++ (wsL_law_r31 ++ (wsL_law_r32 ++ (wsL_law_r33 ++ wsL_law_r34))))))))))))))))))))))))))))))))) ++ wsX70 ++ wsX80 ++ wsX20 ++ wsX40 ++ wsX10 ++ wsX50 ++ wsX30 ++ wsX60 ++ wsX00 ++ ([] : List Cond)
set_option maxRecDepth 20000 in
theorem wsT_1 : ∀ w ∈ wsL_law_r1, w ∈ lw_tbl := fun w h => (goodIn_r (big := lw_tbl) wsL_law_r1 [64, 65, 52, 603, 604, 60, 66, 67, 68, 69, 70, 71, 72, 73, 53, 247, 119, 120, 54, 248, 142, 143, 55, 249] rfl (by decide +kernel) w h).1
theorem wsG_1 : wsL_law_r1.all goodWord = true := by decide +kernel
set_option maxRecDepth 20000 in
theorem wsT_2 : ∀ w ∈ wsL_law_r2, w ∈ lw_tbl := fun w h => (goodIn_r (big := lw_tbl) wsL_law_r2 [157, 158, 56, 250, 198, 199, 57, 251, 211, 212, 58, 252, 224, 253, 226, 59, 74, 75, 76, 77, 118, 80, 82, 78] rfl (by decide +kernel) w h).1
theorem wsG_2 : wsL_law_r2.all goodWord = true := by decide +kernel
set_option maxRecDepth 20000 in
theorem wsT_3 : ∀ w ∈ wsL_law_r3, w ∈ lw_tbl := fun w h => (goodIn_r (big := lw_tbl) wsL_law_r3 [84, 87, 89, 122, 123, 124, 125, 126, 127, 128, 145, 146, 147, 148, 160, 161, 162, 163, 165, 164, 201, 202, 203, 204] rfl (by decide +kernel) w h).1
theorem wsG_3 : wsL_law_r3.all goodWord = true := by decide +kernel
set_option maxRecDepth 20000 in
theorem wsT_4 : ∀ w ∈ wsL_law_r4, w ∈ lw_tbl := fun w h => (goodIn_r (big := lw_tbl) wsL_law_r4 [205, 214, 215, 216, 217, 223, 219, 228, 229, 230, 231, 235, 233, 237, 232, 605, 606, 607, 608, 609, 610, 611, 612, 613] rfl (by decide +kernel) w h).1
theorem wsG_4 : wsL_law_r4.all goodWord = true := by decide +kernel
set_option maxRecDepth 20000 in
theorem wsT_5 : ∀ w ∈ wsL_law_r5, w ∈ lw_tbl := fun w h => (goodIn_r (big := lw_tbl) wsL_law_r5 [618, 619, 620, 622, 624, 625, 626, 628, 632, 633, 634, 635, 636, 637, 638, 639, 712, 640, 269, 270, 271, 272, 81, 83] rfl (by decide +kernel) w h).1
theorem wsG_5 : wsL_law_r5.all goodWord = true := by decide +kernel
set_option maxRecDepth 20000 in
theorem wsT_6 : ∀ w ∈ wsL_law_r6, w ∈ lw_tbl := fun w h => (goodIn_r (big := lw_tbl) wsL_law_r6 [273, 274, 275, 276, 277, 278, 713, 714, 715, 716, 724, 717, 718, 719, 720, 721, 722, 723, 279, 280, 281, 282, 86, 725] rfl (by decide +kernel) w h).1
theorem wsG_6 : wsL_law_r6.all goodWord = true := by decide +kernel
set_option maxRecDepth 20000 in
theorem wsT_7 : ∀ w ∈ wsL_law_r7, w ∈ lw_tbl := fun w h => (goodIn_r (big := lw_tbl) wsL_law_r7 [726, 727, 728, 729, 283, 284, 285, 286, 88, 90, 730, 731, 732, 733, 734, 735, 287, 288, 289, 290, 291, 92, 94, 736] rfl (by decide +kernel) w h).1
theorem wsG_7 : wsL_law_r7.all goodWord = true := by decide +kernel
set_option maxRecDepth 20000 in
theorem wsT_8 : ∀ w ∈ wsL_law_r8, w ∈ lw_tbl := fun w h => (goodIn_r (big := lw_tbl) wsL_law_r8 [737, 738, 739, 740, 614, 615, 292, 293, 294, 295, 151, 296, 297, 298, 299, 149, 741, 742, 743, 744, 745, 746, 623, 300] rfl (by decide +kernel) w h).1
theorem wsG_8 : wsL_law_r8.all goodWord = true := by decide +kernel
set_option maxRecDepth 20000 in
theorem wsT_9 : ∀ w ∈ wsL_law_r9, w ∈ lw_tbl := fun w h => (goodIn_r (big := lw_tbl) wsL_law_r9 [301, 302, 303, 747, 748, 749, 750, 304, 305, 306, 307, 308, 309, 310, 311, 312, 313, 314, 315, 316, 317, 318, 319, 320] rfl (by decide +kernel) w h).1
theorem wsG_9 : wsL_law_r9.all goodWord = true := by decide +kernel
set_option maxRecDepth 20000 in
theorem wsT_10 : ∀ w ∈ wsL_law_r10, w ∈ lw_tbl := fun w h => (goodIn_r (big := lw_tbl) wsL_law_r10 [322, 323, 324, 751, 752, 753, 754, 627, 755, 757, 15, 758, 785, 786, 759, 761, 16, 762, 763, 764, 765, 766, 767, 768] rfl (by decide +kernel) w h).1
theorem wsG_10 : wsL_law_r10.all goodWord = true := by decide +kernel
set_option maxRecDepth 20000 in
theorem wsT_11 : ∀ w ∈ wsL_law_r11, w ∈ lw_tbl := fun w h => (goodIn_r (big := lw_tbl) wsL_law_r11 [770, 17, 771, 772, 773, 774, 775, 777, 18, 778, 779, 780, 781, 783, 19, 784, 325, 326, 327, 328, 172, 170, 168, 329] rfl (by decide +kernel) w h).1
theorem wsG_11 : wsL_law_r11.all goodWord = true := by decide +kernel
set_option maxRecDepth 20000 in
theorem wsT_12 : ∀ w ∈ wsL_law_r12, w ∈ lw_tbl := fun w h => (goodIn_r (big := lw_tbl) wsL_law_r12 [331, 0, 332, 333, 334, 335, 336, 169, 171, 173, 167, 150, 175, 176, 177, 178, 337, 338, 339, 340, 341, 343, 342, 61] rfl (by decide +kernel) w h).1
theorem wsG_12 : wsL_law_r12.all goodWord = true := by decide +kernel
set_option maxRecDepth 20000 in
theorem wsT_13 : ∀ w ∈ wsL_law_r13, w ∈ lw_tbl := fun w h => (goodIn_r (big := lw_tbl) wsL_law_r13 [91, 93, 95, 97, 344, 346, 1, 347, 348, 349, 350, 351, 352, 353, 354, 355, 356, 357, 358, 359, 360, 361, 362, 364] rfl (by decide +kernel) w h).1
theorem wsG_13 : wsL_law_r13.all goodWord = true := by decide +kernel
set_option maxRecDepth 20000 in
theorem wsT_14 : ∀ w ∈ wsL_law_r14, w ∈ lw_tbl := fun w h => (goodIn_r (big := lw_tbl) wsL_law_r14 [2, 365, 366, 367, 369, 3, 370, 371, 373, 4, 374, 375, 377, 5, 378, 379, 380, 381, 382, 383, 384, 385, 386, 387] rfl (by decide +kernel) w h).1
theorem wsG_14 : wsL_law_r14.all goodWord = true := by decide +kernel
set_option maxRecDepth 20000 in
theorem wsT_15 : ∀ w ∈ wsL_law_r15, w ∈ lw_tbl := fun w h => (goodIn_r (big := lw_tbl) wsL_law_r15 [388, 389, 390, 392, 393, 394, 395, 62, 396, 397, 399, 6, 400, 401, 402, 404, 7, 405, 406, 408, 8, 409, 410, 412] rfl (by decide +kernel) w h).1
theorem wsG_15 : wsL_law_r15.all goodWord = true := by decide +kernel
set_option maxRecDepth 20000 in
theorem wsT_16 : ∀ w ∈ wsL_law_r16, w ∈ lw_tbl := fun w h => (goodIn_r (big := lw_tbl) wsL_law_r16 [9, 413, 414, 787, 788, 789, 790, 791, 629, 630, 631, 792, 794, 20, 795, 796, 798, 21, 799, 616, 617, 800, 801, 803] rfl (by decide +kernel) w h).1
theorem wsG_16 : wsL_law_r16.all goodWord = true := by decide +kernel
set_option maxRecDepth 20000 in
theorem wsT_17 : ∀ w ∈ wsL_law_r17, w ∈ lw_tbl := fun w h => (goodIn_r (big := lw_tbl) wsL_law_r17 [22, 804, 805, 807, 23, 808, 809, 810, 812, 24, 813, 814, 816, 25, 817, 818, 820, 26, 821, 822, 824, 27, 825, 826] rfl (by decide +kernel) w h).1
theorem wsG_17 : wsL_law_r17.all goodWord = true := by decide +kernel
set_option maxRecDepth 20000 in
theorem wsT_18 : ∀ w ∈ wsL_law_r18, w ∈ lw_tbl := fun w h => (goodIn_r (big := lw_tbl) wsL_law_r18 [828, 28, 829, 830, 831, 832, 833, 834, 836, 29, 837, 838, 840, 30, 841, 842, 844, 31, 845, 846, 848, 32, 849, 850] rfl (by decide +kernel) w h).1
theorem wsG_18 : wsL_law_r18.all goodWord = true := by decide +kernel
set_option maxRecDepth 20000 in
theorem wsT_19 : ∀ w ∈ wsL_law_r19, w ∈ lw_tbl := fun w h => (goodIn_r (big := lw_tbl) wsL_law_r19 [852, 33, 853, 854, 856, 34, 857, 858, 860, 35, 861, 415, 416, 417, 418, 166, 419, 420, 421, 422, 423, 424, 425, 426] rfl (by decide +kernel) w h).1
theorem wsG_19 : wsL_law_r19.all goodWord = true := by decide +kernel
set_option maxRecDepth 20000 in
theorem wsT_20 : ∀ w ∈ wsL_law_r20, w ∈ lw_tbl := fun w h => (goodIn_r (big := lw_tbl) wsL_law_r20 [427, 428, 429, 430, 862, 863, 864, 865, 866, 867, 869, 36, 870, 871, 873, 37, 874, 875, 877, 38, 878, 431, 432, 433] rfl (by decide +kernel) w h).1
theorem wsG_20 : wsL_law_r20.all goodWord = true := by decide +kernel
set_option maxRecDepth 20000 in
theorem wsT_21 : ∀ w ∈ wsL_law_r21, w ∈ lw_tbl := fun w h => (goodIn_r (big := lw_tbl) wsL_law_r21 [434, 96, 98, 435, 436, 437, 879, 880, 881, 882, 883, 885, 39, 886, 438, 439, 440, 441, 174, 887, 888, 889, 890, 442] rfl (by decide +kernel) w h).1
theorem wsG_21 : wsL_law_r21.all goodWord = true := by decide +kernel
set_option maxRecDepth 20000 in
theorem wsT_22 : ∀ w ∈ wsL_law_r22, w ∈ lw_tbl := fun w h => (goodIn_r (big := lw_tbl) wsL_law_r22 [443, 444, 445, 446, 891, 892, 893, 894, 447, 448, 449, 450, 451, 452, 453, 454, 85, 455, 456, 457, 458, 459, 460, 461] rfl (by decide +kernel) w h).1
theorem wsG_22 : wsL_law_r22.all goodWord = true := by decide +kernel
set_option maxRecDepth 20000 in
theorem wsT_23 : ∀ w ∈ wsL_law_r23, w ∈ lw_tbl := fun w h => (goodIn_r (big := lw_tbl) wsL_law_r23 [462, 463, 465, 10, 466, 467, 468, 469, 470, 895, 896, 897, 898, 899, 901, 40, 902, 903, 905, 41, 906, 471, 472, 473] rfl (by decide +kernel) w h).1
theorem wsG_23 : wsL_law_r23.all goodWord = true := by decide +kernel
set_option maxRecDepth 20000 in
theorem wsT_24 : ∀ w ∈ wsL_law_r24, w ∈ lw_tbl := fun w h => (goodIn_r (big := lw_tbl) wsL_law_r24 [474, 907, 908, 909, 910, 475, 476, 477, 478, 479, 480, 481, 482, 483, 911, 912, 913, 914, 915, 917, 42, 918, 484, 485] rfl (by decide +kernel) w h).1
theorem wsG_24 : wsL_law_r24.all goodWord = true := by decide +kernel
set_option maxRecDepth 20000 in
theorem wsT_25 : ∀ w ∈ wsL_law_r25, w ∈ lw_tbl := fun w h => (goodIn_r (big := lw_tbl) wsL_law_r25 [486, 487, 488, 919, 920, 921, 922, 923, 489, 490, 491, 492, 493, 494, 924, 925, 926, 927, 928, 929, 495, 496, 497, 498] rfl (by decide +kernel) w h).1
theorem wsG_25 : wsL_law_r25.all goodWord = true := by decide +kernel
set_option maxRecDepth 20000 in
theorem wsT_26 : ∀ w ∈ wsL_law_r26, w ∈ lw_tbl := fun w h => (goodIn_r (big := lw_tbl) wsL_law_r26 [499, 500, 501, 502, 503, 504, 505, 506, 507, 508, 509, 510, 511, 512, 930, 931, 932, 933, 934, 935, 936, 937, 938, 939] rfl (by decide +kernel) w h).1
theorem wsG_26 : wsL_law_r26.all goodWord = true := by decide +kernel
set_option maxRecDepth 20000 in
theorem wsT_27 : ∀ w ∈ wsL_law_r27, w ∈ lw_tbl := fun w h => (goodIn_r (big := lw_tbl) wsL_law_r27 [513, 514, 515, 516, 517, 518, 519, 940, 941, 942, 943, 944, 945, 947, 43, 948, 520, 521, 522, 523, 130, 524, 525, 526] rfl (by decide +kernel) w h).1
theorem wsG_27 : wsL_law_r27.all goodWord = true := by decide +kernel
set_option maxRecDepth 20000 in
theorem wsT_28 : ∀ w ∈ wsL_law_r28, w ∈ lw_tbl := fun w h => (goodIn_r (big := lw_tbl) wsL_law_r28 [527, 129, 949, 950, 951, 952, 953, 621, 528, 529, 530, 531, 954, 955, 956, 957, 532, 533, 534, 535, 536, 537, 538, 539] rfl (by decide +kernel) w h).1
theorem wsG_28 : wsL_law_r28.all goodWord = true := by decide +kernel
set_option maxRecDepth 20000 in
theorem wsT_29 : ∀ w ∈ wsL_law_r29, w ∈ lw_tbl := fun w h => (goodIn_r (big := lw_tbl) wsL_law_r29 [540, 541, 63, 542, 543, 544, 545, 958, 959, 960, 961, 962, 964, 44, 965, 966, 967, 968, 546, 547, 548, 549, 550, 551] rfl (by decide +kernel) w h).1
theorem wsG_29 : wsL_law_r29.all goodWord = true := by decide +kernel
set_option maxRecDepth 20000 in
theorem wsT_30 : ∀ w ∈ wsL_law_r30, w ∈ lw_tbl := fun w h => (goodIn_r (big := lw_tbl) wsL_law_r30 [552, 553, 554, 555, 556, 557, 558, 559, 969, 970, 971, 972, 973, 975, 45, 976, 560, 561, 562, 563, 564, 565, 566, 567] rfl (by decide +kernel) w h).1
theorem wsG_30 : wsL_law_r30.all goodWord = true := by decide +kernel
set_option maxRecDepth 20000 in
theorem wsT_31 : ∀ w ∈ wsL_law_r31, w ∈ lw_tbl := fun w h => (goodIn_r (big := lw_tbl) wsL_law_r31 [568, 569, 977, 978, 979, 980, 981, 982, 983, 984, 985, 986, 987, 988, 989, 570, 571, 572, 573, 236, 238, 239, 574, 575] rfl (by decide +kernel) w h).1
theorem wsG_31 : wsL_law_r31.all goodWord = true := by decide +kernel
set_option maxRecDepth 20000 in
theorem wsT_32 : ∀ w ∈ wsL_law_r32, w ∈ lw_tbl := fun w h => (goodIn_r (big := lw_tbl) wsL_law_r32 [576, 577, 578, 990, 991, 992, 993, 641, 642, 994, 996, 46, 997, 998, 1000, 47, 1001, 1002, 1004, 48, 1005, 579, 580, 581] rfl (by decide +kernel) w h).1
theorem wsG_32 : wsL_law_r32.all goodWord = true := by decide +kernel
set_option maxRecDepth 20000 in
theorem wsT_33 : ∀ w ∈ wsL_law_r33, w ∈ lw_tbl := fun w h => (goodIn_r (big := lw_tbl) wsL_law_r33 [582, 1006, 1007, 1008, 1009, 583, 584, 585, 586, 587, 589, 11, 590, 591, 593, 12, 594, 595, 597, 13, 598, 599, 601, 14] rfl (by decide +kernel) w h).1
theorem wsG_33 : wsL_law_r33.all goodWord = true := by decide +kernel
set_option maxRecDepth 20000 in
theorem wsT_34 : ∀ w ∈ wsL_law_r34, w ∈ lw_tbl := fun w h => (goodIn_r (big := lw_tbl) wsL_law_r34 [602, 1010, 1011, 1012, 1013, 1014, 1015, 1016, 1017, 1018, 1020, 49, 1021, 1022, 1024, 50, 1025] rfl (by decide +kernel) w h).1
theorem wsG_34 : wsL_law_r34.all goodWord = true := by decide +kernel
theorem wsTX0 : ∀ w ∈ wsX00, w ∈ lw_tbl := by decide +kernel
theorem wsGX0 : wsX00.all goodWord = true := by decide +kernel
theorem wsTX1 : ∀ w ∈ wsX10, w ∈ lw_tbl := by decide +kernel
theorem wsGX1 : wsX10.all goodWord = true := by decide +kernel
theorem wsTX2 : ∀ w ∈ wsX20, w ∈ lw_tbl := by decide +kernel
theorem wsGX2 : wsX20.all goodWord = true := by decide +kernel
theorem wsTX3 : ∀ w ∈ wsX30, w ∈ lw_tbl := by decide +kernel
theorem wsGX3 : wsX30.all goodWord = true := by decide +kernel
theorem wsTX4 : ∀ w ∈ wsX40, w ∈ lw_tbl := by decide +kernel
theorem wsGX4 : wsX40.all goodWord = true := by decide +kernel
theorem wsTX5 : ∀ w ∈ wsX50, w ∈ lw_tbl := by decide +kernel
theorem wsGX5 : wsX50.all goodWord = true := by decide +kernel
theorem wsTX6 : ∀ w ∈ wsX60, w ∈ lw_tbl := by decide +kernel
theorem wsGX6 : wsX60.all goodWord = true := by decide +kernel
theorem wsTX7 : ∀ w ∈ wsX70, w ∈ lw_tbl := by decide +kernel
theorem wsGX7 : wsX70.all goodWord = true := by decide +kernel
theorem wsTX8 : ∀ w ∈ wsX80, w ∈ lw_tbl := by decide +kernel
theorem wsGX8 : wsX80.all goodWord = true := by decide +kernel
theorem wsL_law_in : ∀ w ∈ wsL_law, w ∈ lw_tbl := List.forall_mem_append.mpr ⟨List.forall_mem_append.mpr ⟨List.forall_mem_append.mpr ⟨List.forall_mem_append.mpr ⟨List.forall_mem_append.mpr ⟨List.forall_mem_append.mpr ⟨List.forall_mem_append.mpr ⟨List.forall_mem_append.mpr ⟨List.forall_mem_append.mpr ⟨List.forall_mem_append.mpr ⟨List.forall_mem_append.mpr ⟨wsT_1, List.forall_mem_append.mpr ⟨wsT_2, List.forall_mem_append.mpr ⟨wsT_3, List.forall_mem_append.mpr ⟨wsT_4, List.forall_mem_append.mpr ⟨wsT_5, List.forall_mem_append.mpr ⟨wsT_6, List.forall_mem_append.mpr ⟨wsT_7, List.forall_mem_append.mpr ⟨wsT_8, List.forall_mem_append.mpr ⟨wsT_9, List.forall_mem_append.mpr ⟨wsT_10, List.forall_mem_append.mpr ⟨wsT_11, List.forall_mem_append.mpr ⟨wsT_12, List.forall_mem_append.mpr ⟨wsT_13, List.forall_mem_append.mpr ⟨wsT_14, List.forall_mem_append.mpr ⟨wsT_15, List.forall_mem_append.mpr ⟨wsT_16, List.forall_mem_append.mpr ⟨wsT_17, List.forall_mem_append.mpr ⟨wsT_18, List.forall_mem_append.mpr ⟨wsT_19, List.forall_mem_append.mpr ⟨wsT_20, List.forall_mem_append.mpr ⟨wsT_21, List.forall_mem_append.mpr ⟨wsT_22, List.forall_mem_append.mpr ⟨wsT_23, List.forall_mem_append.mpr ⟨wsT_24, List.forall_mem_append.mpr ⟨wsT_25, List.forall_mem_append.mpr ⟨wsT_26, List.forall_mem_append.mpr ⟨wsT_27, List.forall_mem_append.mpr ⟨wsT_28, List.forall_mem_append.mpr ⟨wsT_29, List.forall_mem_append.mpr ⟨wsT_30, List.forall_mem_append.mpr ⟨wsT_31, List.forall_mem_append.mpr ⟨wsT_32, List.forall_mem_append.mpr ⟨wsT_33, wsT_34⟩⟩⟩⟩⟩⟩⟩⟩⟩⟩⟩⟩⟩⟩⟩⟩⟩⟩⟩⟩⟩⟩⟩⟩⟩⟩⟩⟩⟩⟩⟩⟩⟩, wsTX7⟩, wsTX8⟩, wsTX2⟩, wsTX4⟩, wsTX1⟩, wsTX5⟩, wsTX3⟩, wsTX6⟩, wsTX0⟩, fun _ h => absurd h List.not_mem_nil⟩
theorem jGood : ∀ w ∈ wsL_law, goodWord w = true := List.forall_mem_append.mpr ⟨List.forall_mem_append.mpr ⟨List.forall_mem_append.mpr ⟨List.forall_mem_append.mpr ⟨List.forall_mem_append.mpr ⟨List.forall_mem_append.mpr ⟨List.forall_mem_append.mpr ⟨List.forall_mem_append.mpr ⟨List.forall_mem_append.mpr ⟨List.forall_mem_append.mpr ⟨List.forall_mem_append.mpr ⟨(List.all_eq_true.mp wsG_1), List.forall_mem_append.mpr ⟨(List.all_eq_true.mp wsG_2), List.forall_mem_append.mpr ⟨(List.all_eq_true.mp wsG_3), List.forall_mem_append.mpr ⟨(List.all_eq_true.mp wsG_4), List.forall_mem_append.mpr ⟨(List.all_eq_true.mp wsG_5), List.forall_mem_append.mpr ⟨(List.all_eq_true.mp wsG_6), List.forall_mem_append.mpr ⟨(List.all_eq_true.mp wsG_7), List.forall_mem_append.mpr ⟨(List.all_eq_true.mp wsG_8), List.forall_mem_append.mpr ⟨(List.all_eq_true.mp wsG_9), List.forall_mem_append.mpr ⟨(List.all_eq_true.mp wsG_10), List.forall_mem_append.mpr ⟨(List.all_eq_true.mp wsG_11), List.forall_mem_append.mpr ⟨(List.all_eq_true.mp wsG_12), List.forall_mem_append.mpr ⟨(List.all_eq_true.mp wsG_13), List.forall_mem_append.mpr ⟨(List.all_eq_true.mp wsG_14), List.forall_mem_append.mpr ⟨(List.all_eq_true.mp wsG_15), List.forall_mem_append.mpr ⟨(List.all_eq_true.mp wsG_16), List.forall_mem_append.mpr ⟨(List.all_eq_true.mp wsG_17), List.forall_mem_append.mpr ⟨(List.all_eq_true.mp wsG_18), List.forall_mem_append.mpr ⟨(List.all_eq_true.mp wsG_19), List.forall_mem_append.mpr ⟨(List.all_eq_true.mp wsG_20), List.forall_mem_append.mpr ⟨(List.all_eq_true.mp wsG_21), List.forall_mem_append.mpr ⟨(List.all_eq_true.mp wsG_22), List.forall_mem_append.mpr ⟨(List.all_eq_true.mp wsG_23), List.forall_mem_append.mpr ⟨(List.all_eq_true.mp wsG_24), List.forall_mem_append.mpr ⟨(List.all_eq_true.mp wsG_25), List.forall_mem_append.mpr ⟨(List.all_eq_true.mp wsG_26), List.forall_mem_append.mpr ⟨(List.all_eq_true.mp wsG_27), List.forall_mem_append.mpr ⟨(List.all_eq_true.mp wsG_28), List.forall_mem_append.mpr ⟨(List.all_eq_true.mp wsG_29), List.forall_mem_append.mpr ⟨(List.all_eq_true.mp wsG_30), List.forall_mem_append.mpr ⟨(List.all_eq_true.mp wsG_31), List.forall_mem_append.mpr ⟨(List.all_eq_true.mp wsG_32), List.forall_mem_append.mpr ⟨(List.all_eq_true.mp wsG_33), (List.all_eq_true.mp wsG_34)⟩⟩⟩⟩⟩⟩⟩⟩⟩⟩⟩⟩⟩⟩⟩⟩⟩⟩⟩⟩⟩⟩⟩⟩⟩⟩⟩⟩⟩⟩⟩⟩⟩, List.all_eq_true.mp wsGX7⟩, List.all_eq_true.mp wsGX8⟩, List.all_eq_true.mp wsGX2⟩, List.all_eq_true.mp wsGX4⟩, List.all_eq_true.mp wsGX1⟩, List.all_eq_true.mp wsGX5⟩, List.all_eq_true.mp wsGX3⟩, List.all_eq_true.mp wsGX6⟩, List.all_eq_true.mp wsGX0⟩, fun _ h => absurd h List.not_mem_nil⟩
theorem inlX0 : ∀ w ∈ wsX00, w ∈ wsL_law := fun _ h => List.mem_append_left _ (List.mem_append_right _ h)
theorem inlX1 : ∀ w ∈ wsX10, w ∈ wsL_law := fun _ h => List.mem_append_left _ (List.mem_append_left _ (List.mem_append_left _ (List.mem_append_left _ (List.mem_append_left _ (List.mem_append_right _ h)))))
theorem inlX2 : ∀ w ∈ wsX20, w ∈ wsL_law := fun _ h => List.mem_append_left _ (List.mem_append_left _ (List.mem_append_left _ (List.mem_append_left _ (List.mem_append_left _ (List.mem_append_left _ (List.mem_append_left _ (List.mem_append_right _ h)))))))
theorem inlX3 : ∀ w ∈ wsX30, w ∈ wsL_law := fun _ h => List.mem_append_left _ (List.mem_append_left _ (List.mem_append_left _ (List.mem_append_right _ h)))
theorem inlX4 : ∀ w ∈ wsX40, w ∈ wsL_law := fun _ h => List.mem_append_left _ (List.mem_append_left _ (List.mem_append_left _ (List.mem_append_left _ (List.mem_append_left _ (List.mem_append_left _ (List.mem_append_right _ h))))))
theorem inlX5 : ∀ w ∈ wsX50, w ∈ wsL_law := fun _ h => List.mem_append_left _ (List.mem_append_left _ (List.mem_append_left _ (List.mem_append_left _ (List.mem_append_right _ h))))
theorem inlX6 : ∀ w ∈ wsX60, w ∈ wsL_law := fun _ h => List.mem_append_left _ (List.mem_append_left _ (List.mem_append_right _ h))
theorem inlX7 : ∀ w ∈ wsX70, w ∈ wsL_law := fun _ h => List.mem_append_left _ (List.mem_append_left _ (List.mem_append_left _ (List.mem_append_left _ (List.mem_append_left _ (List.mem_append_left _ (List.mem_append_left _ (List.mem_append_left _ (List.mem_append_left _ (List.mem_append_right _ h)))))))))
theorem inlX8 : ∀ w ∈ wsX80, w ∈ wsL_law := fun _ h => List.mem_append_left _ (List.mem_append_left _ (List.mem_append_left _ (List.mem_append_left _ (List.mem_append_left _ (List.mem_append_left _ (List.mem_append_left _ (List.mem_append_left _ (List.mem_append_right _ h))))))))
abbrev vwCl : List vw_C := [(RX0, TX0, 3), (RX1, TX1, 2), (RX2, TX2, 9), (RX3, TX3, 2), (RX4, TX4, 5), (RX5, TX5, 9), (RX6, TX6, 1), (RX7, TX7, 7), (RX8, TX8, 34)]
theorem wsr_1 : ∀ w ∈ wsL_law_r1, w ∈ wsL_law := fun _ h => (List.mem_append_left _ (List.mem_append_left _ (List.mem_append_left _ (List.mem_append_left _ (List.mem_append_left _ (List.mem_append_left _ (List.mem_append_left _ (List.mem_append_left _ (List.mem_append_left _ (List.mem_append_left _ (List.mem_append_left _ h)))))))))))
theorem wsr_2 : ∀ w ∈ wsL_law_r2, w ∈ wsL_law := fun _ h => (List.mem_append_left _ (List.mem_append_left _ (List.mem_append_left _ (List.mem_append_left _ (List.mem_append_left _ (List.mem_append_left _ (List.mem_append_left _ (List.mem_append_left _ (List.mem_append_left _ (List.mem_append_left _ (List.mem_append_right _ (List.mem_append_left _ h))))))))))))
theorem wsr_3 : ∀ w ∈ wsL_law_r3, w ∈ wsL_law := fun _ h => (List.mem_append_left _ (List.mem_append_left _ (List.mem_append_left _ (List.mem_append_left _ (List.mem_append_left _ (List.mem_append_left _ (List.mem_append_left _ (List.mem_append_left _ (List.mem_append_left _ (List.mem_append_left _ (List.mem_append_right _ (List.mem_append_right _ (List.mem_append_left _ h)))))))))))))
theorem wsr_4 : ∀ w ∈ wsL_law_r4, w ∈ wsL_law := fun _ h => (List.mem_append_left _ (List.mem_append_left _ (List.mem_append_left _ (List.mem_append_left _ (List.mem_append_left _ (List.mem_append_left _ (List.mem_append_left _ (List.mem_append_left _ (List.mem_append_left _ (List.mem_append_left _ (List.mem_append_right _ (List.mem_append_right _ (List.mem_append_right _ (List.mem_append_left _ h))))))))))))))
theorem wsr_5 : ∀ w ∈ wsL_law_r5, w ∈ wsL_law := fun _ h => (List.mem_append_left _ (List.mem_append_left _ (List.mem_append_left _ (List.mem_append_left _ (List.mem_append_left _ (List.mem_append_left _ (List.mem_append_left _ (List.mem_append_left _ (List.mem_append_left _ (List.mem_append_left _ (List.mem_append_right _ (List.mem_append_right _ (List.mem_append_right _ (List.mem_append_right _ (List.mem_append_left _ h)))))))))))))))
theorem wsr_6 : ∀ w ∈ wsL_law_r6, w ∈ wsL_law := fun _ h => (List.mem_append_left _ (List.mem_append_left _ (List.mem_append_left _ (List.mem_append_left _ (List.mem_append_left _ (List.mem_append_left _ (List.mem_append_left _ (List.mem_append_left _ (List.mem_append_left _ (List.mem_append_left _ (List.mem_append_right _ (List.mem_append_right _ (List.mem_append_right _ (List.mem_append_right _ (List.mem_append_right _ (List.mem_append_left _ h))))))))))))))))
theorem wsr_7 : ∀ w ∈ wsL_law_r7, w ∈ wsL_law := fun _ h => (List.mem_append_left _ (List.mem_append_left _ (List.mem_append_left _ (List.mem_append_left _ (List.mem_append_left _ (List.mem_append_left _ (List.mem_append_left _ (List.mem_append_left _ (List.mem_append_left _ (List.mem_append_left _ (List.mem_append_right _ (List.mem_append_right _ (List.mem_append_right _ (List.mem_append_right _ (List.mem_append_right _ (List.mem_append_right _ (List.mem_append_left _ h)))))))))))))))))
theorem wsr_8 : ∀ w ∈ wsL_law_r8, w ∈ wsL_law := fun _ h => (List.mem_append_left _ (List.mem_append_left _ (List.mem_append_left _ (List.mem_append_left _ (List.mem_append_left _ (List.mem_append_left _ (List.mem_append_left _ (List.mem_append_left _ (List.mem_append_left _ (List.mem_append_left _ (List.mem_append_right _ (List.mem_append_right _ (List.mem_append_right _ (List.mem_append_right _ (List.mem_append_right _ (List.mem_append_right _ (List.mem_append_right _ (List.mem_append_left _ h))))))))))))))))))
theorem wsr_9 : ∀ w ∈ wsL_law_r9, w ∈ wsL_law := fun _ h => (List.mem_append_left _ (List.mem_append_left _ (List.mem_append_left _ (List.mem_append_left _ (List.mem_append_left _ (List.mem_append_left _ (List.mem_append_left _ (List.mem_append_left _ (List.mem_append_left _ (List.mem_append_left _ (List.mem_append_right _ (List.mem_append_right _ (List.mem_append_right _ (List.mem_append_right _ (List.mem_append_right _ (List.mem_append_right _ (List.mem_append_right _ (List.mem_append_right _ (List.mem_append_left _ h)))))))))))))))))))
theorem wsr_10 : ∀ w ∈ wsL_law_r10, w ∈ wsL_law := fun _ h => (List.mem_append_left _ (List.mem_append_left _ (List.mem_append_left _ (List.mem_append_left _ (List.mem_append_left _ (List.mem_append_left _ (List.mem_append_left _ (List.mem_append_left _ (List.mem_append_left _ (List.mem_append_left _ (List.mem_append_right _ (List.mem_append_right _ (List.mem_append_right _ (List.mem_append_right _ (List.mem_append_right _ (List.mem_append_right _ (List.mem_append_right _ (List.mem_append_right _ (List.mem_append_right _ (List.mem_append_left _ h))))))))))))))))))))
theorem wsr_11 : ∀ w ∈ wsL_law_r11, w ∈ wsL_law := fun _ h => (List.mem_append_left _ (List.mem_append_left _ (List.mem_append_left _ (List.mem_append_left _ (List.mem_append_left _ (List.mem_append_left _ (List.mem_append_left _ (List.mem_append_left _ (List.mem_append_left _ (List.mem_append_left _ (List.mem_append_right _ (List.mem_append_right _ (List.mem_append_right _ (List.mem_append_right _ (List.mem_append_right _ (List.mem_append_right _ (List.mem_append_right _ (List.mem_append_right _ (List.mem_append_right _ (List.mem_append_right _ (List.mem_append_left _ h)))))))))))))))))))))
theorem wsr_12 : ∀ w ∈ wsL_law_r12, w ∈ wsL_law := fun _ h => (List.mem_append_left _ (List.mem_append_left _ (List.mem_append_left _ (List.mem_append_left _ (List.mem_append_left _ (List.mem_append_left _ (List.mem_append_left _ (List.mem_append_left _ (List.mem_append_left _ (List.mem_append_left _ (List.mem_append_right _ (List.mem_append_right _ (List.mem_append_right _ (List.mem_append_right _ (List.mem_append_right _ (List.mem_append_right _ (List.mem_append_right _ (List.mem_append_right _ (List.mem_append_right _ (List.mem_append_right _ (List.mem_append_right _ (List.mem_append_left _ h))))))))))))))))))))))
theorem wsr_13 : ∀ w ∈ wsL_law_r13, w ∈ wsL_law := fun _ h => (List.mem_append_left _ (List.mem_append_left _ (List.mem_append_left _ (List.mem_append_left _ (List.mem_append_left _ (List.mem_append_left _ (List.mem_append_left _ (List.mem_append_left _ (List.mem_append_left _ (List.mem_append_left _ (List.mem_append_right _ (List.mem_append_right _ (List.mem_append_right _ (List.mem_append_right _ (List.mem_append_right _ (List.mem_append_right _ (List.mem_append_right _ (List.mem_append_right _ (List.mem_append_right _ (List.mem_append_right _ (List.mem_append_right _ (List.mem_append_right _ (List.mem_append_left _ h)))))))))))))))))))))))
theorem wsr_14 : ∀ w ∈ wsL_law_r14, w ∈ wsL_law := fun _ h => (List.mem_append_left _ (List.mem_append_left _ (List.mem_append_left _ (List.mem_append_left _ (List.mem_append_left _ (List.mem_append_left _ (List.mem_append_left _ (List.mem_append_left _ (List.mem_append_left _ (List.mem_append_left _ (List.mem_append_right _ (List.mem_append_right _ (List.mem_append_right _ (List.mem_append_right _ (List.mem_append_right _ (List.mem_append_right _ (List.mem_append_right _ (List.mem_append_right _ (List.mem_append_right _ (List.mem_append_right _ (List.mem_append_right _ (List.mem_append_right _ (List.mem_append_right _ (List.mem_append_left _ h))))))))))))))))))))))))
theorem wsr_15 : ∀ w ∈ wsL_law_r15, w ∈ wsL_law := fun _ h => (List.mem_append_left _ (List.mem_append_left _ (List.mem_append_left _ (List.mem_append_left _ (List.mem_append_left _ (List.mem_append_left _ (List.mem_append_left _ (List.mem_append_left _ (List.mem_append_left _ (List.mem_append_left _ (List.mem_append_right _ (List.mem_append_right _ (List.mem_append_right _ (List.mem_append_right _ (List.mem_append_right _ (List.mem_append_right _ (List.mem_append_right _ (List.mem_append_right _ (List.mem_append_right _ (List.mem_append_right _ (List.mem_append_right _ (List.mem_append_right _ (List.mem_append_right _ (List.mem_append_right _ (List.mem_append_left _ h)))))))))))))))))))))))))
theorem wsr_16 : ∀ w ∈ wsL_law_r16, w ∈ wsL_law := fun _ h => (List.mem_append_left _ (List.mem_append_left _ (List.mem_append_left _ (List.mem_append_left _ (List.mem_append_left _ (List.mem_append_left _ (List.mem_append_left _ (List.mem_append_left _ (List.mem_append_left _ (List.mem_append_left _ (List.mem_append_right _ (List.mem_append_right _ (List.mem_append_right _ (List.mem_append_right _ (List.mem_append_right _ (List.mem_append_right _ (List.mem_append_right _ (List.mem_append_right _ (List.mem_append_right _ (List.mem_append_right _ (List.mem_append_right _ (List.mem_append_right _ (List.mem_append_right _ (List.mem_append_right _ (List.mem_append_right _ (List.mem_append_left _ h))))))))))))))))))))))))))
theorem wsr_17 : ∀ w ∈ wsL_law_r17, w ∈ wsL_law := fun _ h => (List.mem_append_left _ (List.mem_append_left _ (List.mem_append_left _ (List.mem_append_left _ (List.mem_append_left _ (List.mem_append_left _ (List.mem_append_left _ (List.mem_append_left _ (List.mem_append_left _ (List.mem_append_left _ (List.mem_append_right _ (List.mem_append_right _ (List.mem_append_right _ (List.mem_append_right _ (List.mem_append_right _ (List.mem_append_right _ (List.mem_append_right _ (List.mem_append_right _ (List.mem_append_right _ (List.mem_append_right _ (List.mem_append_right _ (List.mem_append_right _ (List.mem_append_right _ (List.mem_append_right _ (List.mem_append_right _ (List.mem_append_right _ (List.mem_append_left _ h)))))))))))))))))))))))))))
theorem wsr_18 : ∀ w ∈ wsL_law_r18, w ∈ wsL_law := fun _ h => (List.mem_append_left _ (List.mem_append_left _ (List.mem_append_left _ (List.mem_append_left _ (List.mem_append_left _ (List.mem_append_left _ (List.mem_append_left _ (List.mem_append_left _ (List.mem_append_left _ (List.mem_append_left _ (List.mem_append_right _ (List.mem_append_right _ (List.mem_append_right _ (List.mem_append_right _ (List.mem_append_right _ (List.mem_append_right _ (List.mem_append_right _ (List.mem_append_right _ (List.mem_append_right _ (List.mem_append_right _ (List.mem_append_right _ (List.mem_append_right _ (List.mem_append_right _ (List.mem_append_right _ (List.mem_append_right _ (List.mem_append_right _ (List.mem_append_right _ (List.mem_append_left _ h))))))))))))))))))))))))))))
theorem wsr_19 : ∀ w ∈ wsL_law_r19, w ∈ wsL_law := fun _ h => (List.mem_append_left _ (List.mem_append_left _ (List.mem_append_left _ (List.mem_append_left _ (List.mem_append_left _ (List.mem_append_left _ (List.mem_append_left _ (List.mem_append_left _ (List.mem_append_left _ (List.mem_append_left _ (List.mem_append_right _ (List.mem_append_right _ (List.mem_append_right _ (List.mem_append_right _ (List.mem_append_right _ (List.mem_append_right _ (List.mem_append_right _ (List.mem_append_right _ (List.mem_append_right _ (List.mem_append_right _ (List.mem_append_right _ (List.mem_append_right _ (List.mem_append_right _ (List.mem_append_right _ (List.mem_append_right _ (List.mem_append_right _ (List.mem_append_right _ (List.mem_append_right _ (List.mem_append_left _ h)))))))))))))))))))))))))))))
theorem wsr_20 : ∀ w ∈ wsL_law_r20, w ∈ wsL_law := fun _ h => (List.mem_append_left _ (List.mem_append_left _ (List.mem_append_left _ (List.mem_append_left _ (List.mem_append_left _ (List.mem_append_left _ (List.mem_append_left _ (List.mem_append_left _ (List.mem_append_left _ (List.mem_append_left _ (List.mem_append_right _ (List.mem_append_right _ (List.mem_append_right _ (List.mem_append_right _ (List.mem_append_right _ (List.mem_append_right _ (List.mem_append_right _ (List.mem_append_right _ (List.mem_append_right _ (List.mem_append_right _ (List.mem_append_right _ (List.mem_append_right _ (List.mem_append_right _ (List.mem_append_right _ (List.mem_append_right _ (List.mem_append_right _ (List.mem_append_right _ (List.mem_append_right _ (List.mem_append_right _ (List.mem_append_left _ h))))))))))))))))))))))))))))))
theorem wsr_21 : ∀ w ∈ wsL_law_r21, w ∈ wsL_law := fun _ h => (List.mem_append_left _ (List.mem_append_left _ (List.mem_append_left _ (List.mem_append_left _ (List.mem_append_left _ (List.mem_append_left _ (List.mem_append_left _ (List.mem_append_left _ (List.mem_append_left _ (List.mem_append_left _ (List.mem_append_right _ (List.mem_append_right _ (List.mem_append_right _ (List.mem_append_right _ (List.mem_append_right _ (List.mem_append_right _ (List.mem_append_right _ (List.mem_append_right _ (List.mem_append_right _ (List.mem_append_right _ (List.mem_append_right _ (List.mem_append_right _ (List.mem_append_right _ (List.mem_append_right _ (List.mem_append_right _ (List.mem_append_right _ (List.mem_append_right _ (List.mem_append_right _ (List.mem_append_right _ (List.mem_append_right _ (List.mem_append_left _ h)))))))))))))))))))))))))))))))
theorem wsr_22 : ∀ w ∈ wsL_law_r22, w ∈ wsL_law := fun _ h => (List.mem_append_left _ (List.mem_append_left _ (List.mem_append_left _ (List.mem_append_left _ (List.mem_append_left _ (List.mem_append_left _ (List.mem_append_left _ (List.mem_append_left _ (List.mem_append_left _ (List.mem_append_left _ (List.mem_append_right _ (List.mem_append_right _ (List.mem_append_right _ (List.mem_append_right _ (List.mem_append_right _ (List.mem_append_right _ (List.mem_append_right _ (List.mem_append_right _ (List.mem_append_right _ (List.mem_append_right _ (List.mem_append_right _ (List.mem_append_right _ (List.mem_append_right _ (List.mem_append_right _ (List.mem_append_right _ (List.mem_append_right _ (List.mem_append_right _ (List.mem_append_right _ (List.mem_append_right _ (List.mem_append_right _ (List.mem_append_right _ (List.mem_append_left _ h))))))))))))))))))))))))))))))))
theorem wsr_23 : ∀ w ∈ wsL_law_r23, w ∈ wsL_law := fun _ h => (List.mem_append_left _ (List.mem_append_left _ (List.mem_append_left _ (List.mem_append_left _ (List.mem_append_left _ (List.mem_append_left _ (List.mem_append_left _ (List.mem_append_left _ (List.mem_append_left _ (List.mem_append_left _ (List.mem_append_right _ (List.mem_append_right _ (List.mem_append_right _ (List.mem_append_right _ (List.mem_append_right _ (List.mem_append_right _ (List.mem_append_right _ (List.mem_append_right _ (List.mem_append_right _ (List.mem_append_right _ (List.mem_append_right _ (List.mem_append_right _ (List.mem_append_right _ (List.mem_append_right _ (List.mem_append_right _ (List.mem_append_right _ (List.mem_append_right _ (List.mem_append_right _ (List.mem_append_right _ (List.mem_append_right _ (List.mem_append_right _ (List.mem_append_right _ (List.mem_append_left _ h)))))))))))))))))))))))))))))))))
theorem wsr_24 : ∀ w ∈ wsL_law_r24, w ∈ wsL_law := fun _ h => (List.mem_append_left _ (List.mem_append_left _ (List.mem_append_left _ (List.mem_append_left _ (List.mem_append_left _ (List.mem_append_left _ (List.mem_append_left _ (List.mem_append_left _ (List.mem_append_left _ (List.mem_append_left _ (List.mem_append_right _ (List.mem_append_right _ (List.mem_append_right _ (List.mem_append_right _ (List.mem_append_right _ (List.mem_append_right _ (List.mem_append_right _ (List.mem_append_right _ (List.mem_append_right _ (List.mem_append_right _ (List.mem_append_right _ (List.mem_append_right _ (List.mem_append_right _ (List.mem_append_right _ (List.mem_append_right _ (List.mem_append_right _ (List.mem_append_right _ (List.mem_append_right _ (List.mem_append_right _ (List.mem_append_right _ (List.mem_append_right _ (List.mem_append_right _ (List.mem_append_right _ (List.mem_append_left _ h))))))))))))))))))))))))))))))))))
theorem wsr_25 : ∀ w ∈ wsL_law_r25, w ∈ wsL_law := fun _ h => (List.mem_append_left _ (List.mem_append_left _ (List.mem_append_left _ (List.mem_append_left _ (List.mem_append_left _ (List.mem_append_left _ (List.mem_append_left _ (List.mem_append_left _ (List.mem_append_left _ (List.mem_append_left _ (List.mem_append_right _ (List.mem_append_right _ (List.mem_append_right _ (List.mem_append_right _ (List.mem_append_right _ (List.mem_append_right _ (List.mem_append_right _ (List.mem_append_right _ (List.mem_append_right _ (List.mem_append_right _ (List.mem_append_right _ (List.mem_append_right _ (List.mem_append_right _ (List.mem_append_right _ (List.mem_append_right _ (List.mem_append_right _ (List.mem_append_right _ (List.mem_append_right _ (List.mem_append_right _ (List.mem_append_right _ (List.mem_append_right _ (List.mem_append_right _ (List.mem_append_right _ (List.mem_append_right _ (List.mem_append_left _ h)))))))))))))))))))))))))))))))))))
theorem wsr_26 : ∀ w ∈ wsL_law_r26, w ∈ wsL_law := fun _ h => (List.mem_append_left _ (List.mem_append_left _ (List.mem_append_left _ (List.mem_append_left _ (List.mem_append_left _ (List.mem_append_left _ (List.mem_append_left _ (List.mem_append_left _ (List.mem_append_left _ (List.mem_append_left _ (List.mem_append_right _ (List.mem_append_right _ (List.mem_append_right _ (List.mem_append_right _ (List.mem_append_right _ (List.mem_append_right _ (List.mem_append_right _ (List.mem_append_right _ (List.mem_append_right _ (List.mem_append_right _ (List.mem_append_right _ (List.mem_append_right _ (List.mem_append_right _ (List.mem_append_right _ (List.mem_append_right _ (List.mem_append_right _ (List.mem_append_right _ (List.mem_append_right _ (List.mem_append_right _ (List.mem_append_right _ (List.mem_append_right _ (List.mem_append_right _ (List.mem_append_right _ (List.mem_append_right _ (List.mem_append_right _ (List.mem_append_left _ h))))))))))))))))))))))))))))))))))))
theorem wsr_27 : ∀ w ∈ wsL_law_r27, w ∈ wsL_law := fun _ h => (List.mem_append_left _ (List.mem_append_left _ (List.mem_append_left _ (List.mem_append_left _ (List.mem_append_left _ (List.mem_append_left _ (List.mem_append_left _ (List.mem_append_left _ (List.mem_append_left _ (List.mem_append_left _ (List.mem_append_right _ (List.mem_append_right _ (List.mem_append_right _ (List.mem_append_right _ (List.mem_append_right _ (List.mem_append_right _ (List.mem_append_right _ (List.mem_append_right _ (List.mem_append_right _ (List.mem_append_right _ (List.mem_append_right _ (List.mem_append_right _ (List.mem_append_right _ (List.mem_append_right _ (List.mem_append_right _ (List.mem_append_right _ (List.mem_append_right _ (List.mem_append_right _ (List.mem_append_right _ (List.mem_append_right _ (List.mem_append_right _ (List.mem_append_right _ (List.mem_append_right _ (List.mem_append_right _ (List.mem_append_right _ (List.mem_append_right _ (List.mem_append_left _ h)))))))))))))))))))))))))))))))))))))
theorem wsr_28 : ∀ w ∈ wsL_law_r28, w ∈ wsL_law := fun _ h => (List.mem_append_left _ (List.mem_append_left _ (List.mem_append_left _ (List.mem_append_left _ (List.mem_append_left _ (List.mem_append_left _ (List.mem_append_left _ (List.mem_append_left _ (List.mem_append_left _ (List.mem_append_left _ (List.mem_append_right _ (List.mem_append_right _ (List.mem_append_right _ (List.mem_append_right _ (List.mem_append_right _ (List.mem_append_right _ (List.mem_append_right _ (List.mem_append_right _ (List.mem_append_right _ (List.mem_append_right _ (List.mem_append_right _ (List.mem_append_right _ (List.mem_append_right _ (List.mem_append_right _ (List.mem_append_right _ (List.mem_append_right _ (List.mem_append_right _ (List.mem_append_right _ (List.mem_append_right _ (List.mem_append_right _ (List.mem_append_right _ (List.mem_append_right _ (List.mem_append_right _ (List.mem_append_right _ (List.mem_append_right _ (List.mem_append_right _ (List.mem_append_right _ (List.mem_append_left _ h))))))))))))))))))))))))))))))))))))))
theorem wsr_29 : ∀ w ∈ wsL_law_r29, w ∈ wsL_law := fun _ h => (List.mem_append_left _ (List.mem_append_left _ (List.mem_append_left _ (List.mem_append_left _ (List.mem_append_left _ (List.mem_append_left _ (List.mem_append_left _ (List.mem_append_left _ (List.mem_append_left _ (List.mem_append_left _ (List.mem_append_right _ (List.mem_append_right _ (List.mem_append_right _ (List.mem_append_right _ (List.mem_append_right _ (List.mem_append_right _ (List.mem_append_right _ (List.mem_append_right _ (List.mem_append_right _ (List.mem_append_right _ (List.mem_append_right _ (List.mem_append_right _ (List.mem_append_right _ (List.mem_append_right _ (List.mem_append_right _ (List.mem_append_right _ (List.mem_append_right _ (List.mem_append_right _ (List.mem_append_right _ (List.mem_append_right _ (List.mem_append_right _ (List.mem_append_right _ (List.mem_append_right _ (List.mem_append_right _ (List.mem_append_right _ (List.mem_append_right _ (List.mem_append_right _ (List.mem_append_right _ (List.mem_append_left _ h)))))))))))))))))))))))))))))))))))))))
theorem wsr_30 : ∀ w ∈ wsL_law_r30, w ∈ wsL_law := fun _ h => (List.mem_append_left _ (List.mem_append_left _ (List.mem_append_left _ (List.mem_append_left _ (List.mem_append_left _ (List.mem_append_left _ (List.mem_append_left _ (List.mem_append_left _ (List.mem_append_left _ (List.mem_append_left _ (List.mem_append_right _ (List.mem_append_right _ (List.mem_append_right _ (List.mem_append_right _ (List.mem_append_right _ (List.mem_append_right _ (List.mem_append_right _ (List.mem_append_right _ (List.mem_append_right _ (List.mem_append_right _ (List.mem_append_right _ (List.mem_append_right _ (List.mem_append_right _ (List.mem_append_right _ (List.mem_append_right _ (List.mem_append_right _ (List.mem_append_right _ (List.mem_append_right _ (List.mem_append_right _ (List.mem_append_right _ (List.mem_append_right _ (List.mem_append_right _ (List.mem_append_right _ (List.mem_append_right _ (List.mem_append_right _ (List.mem_append_right _ (List.mem_append_right _ (List.mem_append_right _ (List.mem_append_right _ (List.mem_append_left _ h))))))))))))))))))))))))))))))))))))))))
theorem wsr_31 : ∀ w ∈ wsL_law_r31, w ∈ wsL_law := fun _ h => (List.mem_append_left _ (List.mem_append_left _ (List.mem_append_left _ (List.mem_append_left _ (List.mem_append_left _ (List.mem_append_left _ (List.mem_append_left _ (List.mem_append_left _ (List.mem_append_left _ (List.mem_append_left _ (List.mem_append_right _ (List.mem_append_right _ (List.mem_append_right _ (List.mem_append_right _ (List.mem_append_right _ (List.mem_append_right _ (List.mem_append_right _ (List.mem_append_right _ (List.mem_append_right _ (List.mem_append_right _ (List.mem_append_right _ (List.mem_append_right _ (List.mem_append_right _ (List.mem_append_right _ (List.mem_append_right _ (List.mem_append_right _ (List.mem_append_right _ (List.mem_append_right _ (List.mem_append_right _ (List.mem_append_right _ (List.mem_append_right _ (List.mem_append_right _ (List.mem_append_right _ (List.mem_append_right _ (List.mem_append_right _ (List.mem_append_right _ (List.mem_append_right _ (List.mem_append_right _ (List.mem_append_right _ (List.mem_append_right _ (List.mem_append_left _ h)))))))))))))))))))))))))))))))))))))))))
theorem wsr_32 : ∀ w ∈ wsL_law_r32, w ∈ wsL_law := fun _ h => (List.mem_append_left _ (List.mem_append_left _ (List.mem_append_left _ (List.mem_append_left _ (List.mem_append_left _ (List.mem_append_left _ (List.mem_append_left _ (List.mem_append_left _ (List.mem_append_left _ (List.mem_append_left _ (List.mem_append_right _ (List.mem_append_right _ (List.mem_append_right _ (List.mem_append_right _ (List.mem_append_right _ (List.mem_append_right _ (List.mem_append_right _ (List.mem_append_right _ (List.mem_append_right _ (List.mem_append_right _ (List.mem_append_right _ (List.mem_append_right _ (List.mem_append_right _ (List.mem_append_right _ (List.mem_append_right _ (List.mem_append_right _ (List.mem_append_right _ (List.mem_append_right _ (List.mem_append_right _ (List.mem_append_right _ (List.mem_append_right _ (List.mem_append_right _ (List.mem_append_right _ (List.mem_append_right _ (List.mem_append_right _ (List.mem_append_right _ (List.mem_append_right _ (List.mem_append_right _ (List.mem_append_right _ (List.mem_append_right _ (List.mem_append_right _ (List.mem_append_left _ h))))))))))))))))))))))))))))))))))))))))))
theorem wsr_33 : ∀ w ∈ wsL_law_r33, w ∈ wsL_law := fun _ h => (List.mem_append_left _ (List.mem_append_left _ (List.mem_append_left _ (List.mem_append_left _ (List.mem_append_left _ (List.mem_append_left _ (List.mem_append_left _ (List.mem_append_left _ (List.mem_append_left _ (List.mem_append_left _ (List.mem_append_right _ (List.mem_append_right _ (List.mem_append_right _ (List.mem_append_right _ (List.mem_append_right _ (List.mem_append_right _ (List.mem_append_right _ (List.mem_append_right _ (List.mem_append_right _ (List.mem_append_right _ (List.mem_append_right _ (List.mem_append_right _ (List.mem_append_right _ (List.mem_append_right _ (List.mem_append_right _ (List.mem_append_right _ (List.mem_append_right _ (List.mem_append_right _ (List.mem_append_right _ (List.mem_append_right _ (List.mem_append_right _ (List.mem_append_right _ (List.mem_append_right _ (List.mem_append_right _ (List.mem_append_right _ (List.mem_append_right _ (List.mem_append_right _ (List.mem_append_right _ (List.mem_append_right _ (List.mem_append_right _ (List.mem_append_right _ (List.mem_append_right _ (List.mem_append_left _ h)))))))))))))))))))))))))))))))))))))))))))
theorem wsr_34 : ∀ w ∈ wsL_law_r34, w ∈ wsL_law := fun _ h => (List.mem_append_left _ (List.mem_append_left _ (List.mem_append_left _ (List.mem_append_left _ (List.mem_append_left _ (List.mem_append_left _ (List.mem_append_left _ (List.mem_append_left _ (List.mem_append_left _ (List.mem_append_left _ (List.mem_append_right _ (List.mem_append_right _ (List.mem_append_right _ (List.mem_append_right _ (List.mem_append_right _ (List.mem_append_right _ (List.mem_append_right _ (List.mem_append_right _ (List.mem_append_right _ (List.mem_append_right _ (List.mem_append_right _ (List.mem_append_right _ (List.mem_append_right _ (List.mem_append_right _ (List.mem_append_right _ (List.mem_append_right _ (List.mem_append_right _ (List.mem_append_right _ (List.mem_append_right _ (List.mem_append_right _ (List.mem_append_right _ (List.mem_append_right _ (List.mem_append_right _ (List.mem_append_right _ (List.mem_append_right _ (List.mem_append_right _ (List.mem_append_right _ (List.mem_append_right _ (List.mem_append_right _ (List.mem_append_right _ (List.mem_append_right _ (List.mem_append_right _ (List.mem_append_right _ h)))))))))))))))))))))))))))))))))))))))))))
theorem wm_1_0 : Cond.classLink RL 7 RX7 ∈ wsL_law := wsr_1 _ (List.mem_of_getElem? (i := 0) rfl)
theorem wm_1_1 : Cond.instantiable RX7 7 ∈ wsL_law := wsr_1 _ (List.mem_of_getElem? (i := 1) rfl)
theorem wm_1_2 : Cond.initialized RX7 ∈ wsL_law := wsr_1 _ (List.mem_of_getElem? (i := 2) rfl)
theorem wm_1_3 : Cond.classLink RL 10 RX8 ∈ wsL_law := wsr_1 _ (List.mem_of_getElem? (i := 3) rfl)
theorem wm_1_4 : Cond.instantiable RX8 34 ∈ wsL_law := wsr_1 _ (List.mem_of_getElem? (i := 4) rfl)
theorem wm_1_5 : Cond.initialized RX8 ∈ wsL_law := wsr_1 _ (List.mem_of_getElem? (i := 5) rfl)
theorem wm_1_6 : Cond.methodLink RL 9 yX7_init ∈ wsL_law := wsr_1 _ (List.mem_of_getElem? (i := 6) rfl)
theorem wm_1_7 : Cond.instanceMethod yX7_init ∈ wsL_law := wsr_1 _ (List.mem_of_getElem? (i := 7) rfl)
theorem wm_1_8 : Cond.code yX7_init cX7_init 2 none ∈ wsL_law := wsr_1 _ (List.mem_of_getElem? (i := 8) rfl)
theorem wm_1_9 : Cond.methodLink RX7 1 objectInit ∈ wsL_law := wsr_1 _ (List.mem_of_getElem? (i := 9) rfl)
theorem wm_1_10 : Cond.instanceMethod objectInit ∈ wsL_law := wsr_1 _ (List.mem_of_getElem? (i := 10) rfl)
theorem wm_1_11 : Cond.code objectInit ⟨#[0xb1]⟩ 1 none ∈ wsL_law := wsr_1 _ (List.mem_of_getElem? (i := 11) rfl)
theorem wm_1_12 : Cond.classLink RX7 7 RX2 ∈ wsL_law := wsr_1 _ (List.mem_of_getElem? (i := 12) rfl)
theorem wm_1_13 : Cond.instantiable RX2 9 ∈ wsL_law := wsr_1 _ (List.mem_of_getElem? (i := 13) rfl)
theorem wm_1_14 : Cond.initialized RX2 ∈ wsL_law := wsr_1 _ (List.mem_of_getElem? (i := 14) rfl)
theorem wm_1_15 : Cond.fieldLink RX7 10 "AbbeyNotes" "now" "LAbbeyNotes$Realm;" ∈ wsL_law := wsr_1 _ (List.mem_of_getElem? (i := 15) rfl)
theorem wm_1_16 : Cond.classLink RX7 16 RX4 ∈ wsL_law := wsr_1 _ (List.mem_of_getElem? (i := 16) rfl)
theorem wm_1_17 : Cond.instantiable RX4 5 ∈ wsL_law := wsr_1 _ (List.mem_of_getElem? (i := 17) rfl)
theorem wm_1_18 : Cond.initialized RX4 ∈ wsL_law := wsr_1 _ (List.mem_of_getElem? (i := 18) rfl)
theorem wm_1_19 : Cond.fieldLink RX7 19 "AbbeyNotes" "sights" "LAbbeyNotes$Sights;" ∈ wsL_law := wsr_1 _ (List.mem_of_getElem? (i := 19) rfl)
theorem wm_1_20 : Cond.classLink RX7 23 RX1 ∈ wsL_law := wsr_1 _ (List.mem_of_getElem? (i := 20) rfl)
theorem wm_1_21 : Cond.instantiable RX1 2 ∈ wsL_law := wsr_1 _ (List.mem_of_getElem? (i := 21) rfl)
theorem wm_1_22 : Cond.initialized RX1 ∈ wsL_law := wsr_1 _ (List.mem_of_getElem? (i := 22) rfl)
theorem wm_1_23 : Cond.fieldLink RX7 26 "AbbeyNotes" "pad" "LAbbeyNotes$Pad;" ∈ wsL_law := wsr_1 _ (List.mem_of_getElem? (i := 23) rfl)
theorem wm_2_0 : Cond.classLink RX7 30 RX5 ∈ wsL_law := wsr_2 _ (List.mem_of_getElem? (i := 0) rfl)
theorem wm_2_1 : Cond.instantiable RX5 9 ∈ wsL_law := wsr_2 _ (List.mem_of_getElem? (i := 1) rfl)
theorem wm_2_2 : Cond.initialized RX5 ∈ wsL_law := wsr_2 _ (List.mem_of_getElem? (i := 2) rfl)
theorem wm_2_3 : Cond.fieldLink RX7 33 "AbbeyNotes" "trial" "LAbbeyNotes$Trial;" ∈ wsL_law := wsr_2 _ (List.mem_of_getElem? (i := 3) rfl)
theorem wm_2_4 : Cond.classLink RX7 37 RX3 ∈ wsL_law := wsr_2 _ (List.mem_of_getElem? (i := 4) rfl)
theorem wm_2_5 : Cond.instantiable RX3 2 ∈ wsL_law := wsr_2 _ (List.mem_of_getElem? (i := 5) rfl)
theorem wm_2_6 : Cond.initialized RX3 ∈ wsL_law := wsr_2 _ (List.mem_of_getElem? (i := 6) rfl)
theorem wm_2_7 : Cond.fieldLink RX7 40 "AbbeyNotes" "settling" "LAbbeyNotes$Settling;" ∈ wsL_law := wsr_2 _ (List.mem_of_getElem? (i := 7) rfl)
theorem wm_2_8 : Cond.classLink RX7 44 RX6 ∈ wsL_law := wsr_2 _ (List.mem_of_getElem? (i := 8) rfl)
theorem wm_2_9 : Cond.instantiable RX6 1 ∈ wsL_law := wsr_2 _ (List.mem_of_getElem? (i := 9) rfl)
theorem wm_2_10 : Cond.initialized RX6 ∈ wsL_law := wsr_2 _ (List.mem_of_getElem? (i := 10) rfl)
theorem wm_2_11 : Cond.fieldLink RX7 47 "AbbeyNotes" "waiting" "LAbbeyNotes$Waiting;" ∈ wsL_law := wsr_2 _ (List.mem_of_getElem? (i := 11) rfl)
theorem wm_2_12 : Cond.classLink RX7 51 RX0 ∈ wsL_law := wsr_2 _ (List.mem_of_getElem? (i := 12) rfl)
theorem wm_2_13 : Cond.fieldLink RX7 53 "AbbeyNotes" "images" "[LAbbeyNotes$Image;" ∈ wsL_law := wsr_2 _ (List.mem_of_getElem? (i := 13) rfl)
theorem wm_2_14 : Cond.instantiable RX0 3 ∈ wsL_law := wsr_2 _ (List.mem_of_getElem? (i := 14) rfl)
theorem wm_2_15 : Cond.initialized RX0 ∈ wsL_law := wsr_2 _ (List.mem_of_getElem? (i := 15) rfl)
theorem wm_2_16 : Cond.methodLink RX7 9 yX2_init ∈ wsL_law := wsr_2 _ (List.mem_of_getElem? (i := 16) rfl)
theorem wm_2_17 : Cond.instanceMethod yX2_init ∈ wsL_law := wsr_2 _ (List.mem_of_getElem? (i := 17) rfl)
theorem wm_2_18 : Cond.code yX2_init cX2_init 2 none ∈ wsL_law := wsr_2 _ (List.mem_of_getElem? (i := 18) rfl)
theorem wm_2_19 : Cond.methodLink RX2 3 objectInit ∈ wsL_law := wsr_2 _ (List.mem_of_getElem? (i := 19) rfl)
theorem wm_2_20 : Cond.arrayClass .int ∈ wsL_law := wsr_2 _ (List.mem_of_getElem? (i := 20) rfl)
theorem wm_2_21 : Cond.fieldLink RX2 9 "AbbeyNotes$Realm" "paper" "[I" ∈ wsL_law := wsr_2 _ (List.mem_of_getElem? (i := 21) rfl)
theorem wm_2_22 : Cond.fieldLink RX2 15 "AbbeyNotes$Realm" "coin" "[I" ∈ wsL_law := wsr_2 _ (List.mem_of_getElem? (i := 22) rfl)
theorem wm_2_23 : Cond.classLink RX2 18 "[[I" ∈ wsL_law := wsr_2 _ (List.mem_of_getElem? (i := 23) rfl)
theorem wm_3_0 : Cond.fieldLink RX2 20 "AbbeyNotes$Realm" "owes" "[[I" ∈ wsL_law := wsr_3 _ (List.mem_of_getElem? (i := 0) rfl)
theorem wm_3_1 : Cond.fieldLink RX2 23 "AbbeyNotes$Realm" "price" "[I" ∈ wsL_law := wsr_3 _ (List.mem_of_getElem? (i := 1) rfl)
theorem wm_3_2 : Cond.fieldLink RX2 26 "AbbeyNotes$Realm" "owner" "[I" ∈ wsL_law := wsr_3 _ (List.mem_of_getElem? (i := 2) rfl)
theorem wm_3_3 : Cond.instanceMethod yX4_init ∈ wsL_law := wsr_3 _ (List.mem_of_getElem? (i := 3) rfl)
theorem wm_3_4 : Cond.code yX4_init cX4_init 1 none ∈ wsL_law := wsr_3 _ (List.mem_of_getElem? (i := 4) rfl)
theorem wm_3_5 : Cond.methodLink RX4 3 objectInit ∈ wsL_law := wsr_3 _ (List.mem_of_getElem? (i := 5) rfl)
theorem wm_3_6 : Cond.fieldLink RX4 9 "AbbeyNotes$Sights" "chests" "[I" ∈ wsL_law := wsr_3 _ (List.mem_of_getElem? (i := 6) rfl)
theorem wm_3_7 : Cond.fieldLink RX4 15 "AbbeyNotes$Sights" "many" "[I" ∈ wsL_law := wsr_3 _ (List.mem_of_getElem? (i := 7) rfl)
theorem wm_3_8 : Cond.fieldLink RX4 18 "AbbeyNotes$Sights" "how" "[I" ∈ wsL_law := wsr_3 _ (List.mem_of_getElem? (i := 8) rfl)
theorem wm_3_9 : Cond.fieldLink RX4 21 "AbbeyNotes$Sights" "untrue" "[I" ∈ wsL_law := wsr_3 _ (List.mem_of_getElem? (i := 9) rfl)
theorem wm_3_10 : Cond.instanceMethod yX1_init ∈ wsL_law := wsr_3 _ (List.mem_of_getElem? (i := 10) rfl)
theorem wm_3_11 : Cond.code yX1_init cX1_init 1 none ∈ wsL_law := wsr_3 _ (List.mem_of_getElem? (i := 11) rfl)
theorem wm_3_12 : Cond.methodLink RX1 3 objectInit ∈ wsL_law := wsr_3 _ (List.mem_of_getElem? (i := 12) rfl)
theorem wm_3_13 : Cond.fieldLink RX1 9 "AbbeyNotes$Pad" "signs" "[I" ∈ wsL_law := wsr_3 _ (List.mem_of_getElem? (i := 13) rfl)
theorem wm_3_14 : Cond.instanceMethod yX5_init ∈ wsL_law := wsr_3 _ (List.mem_of_getElem? (i := 14) rfl)
theorem wm_3_15 : Cond.code yX5_init cX5_init 1 none ∈ wsL_law := wsr_3 _ (List.mem_of_getElem? (i := 15) rfl)
theorem wm_3_16 : Cond.methodLink RX5 3 objectInit ∈ wsL_law := wsr_3 _ (List.mem_of_getElem? (i := 16) rfl)
theorem wm_3_17 : Cond.classLink RX5 9 RX2 ∈ wsL_law := wsr_3 _ (List.mem_of_getElem? (i := 17) rfl)
theorem wm_3_18 : Cond.fieldLink RX5 12 "AbbeyNotes$Trial" "realm" "LAbbeyNotes$Realm;" ∈ wsL_law := wsr_3 _ (List.mem_of_getElem? (i := 18) rfl)
theorem wm_3_19 : Cond.methodLink RX5 11 yX2_init ∈ wsL_law := wsr_3 _ (List.mem_of_getElem? (i := 19) rfl)
theorem wm_3_20 : Cond.instanceMethod yX3_init ∈ wsL_law := wsr_3 _ (List.mem_of_getElem? (i := 20) rfl)
theorem wm_3_21 : Cond.code yX3_init cX3_init 1 none ∈ wsL_law := wsr_3 _ (List.mem_of_getElem? (i := 21) rfl)
theorem wm_3_22 : Cond.methodLink RX3 3 objectInit ∈ wsL_law := wsr_3 _ (List.mem_of_getElem? (i := 22) rfl)
theorem wm_3_23 : Cond.fieldLink RX3 9 "AbbeyNotes$Settling" "due" "[I" ∈ wsL_law := wsr_3 _ (List.mem_of_getElem? (i := 23) rfl)
theorem wm_4_0 : Cond.fieldLink RX3 15 "AbbeyNotes$Settling" "groups" "[I" ∈ wsL_law := wsr_4 _ (List.mem_of_getElem? (i := 0) rfl)
theorem wm_4_1 : Cond.instanceMethod yX6_init ∈ wsL_law := wsr_4 _ (List.mem_of_getElem? (i := 1) rfl)
theorem wm_4_2 : Cond.code yX6_init cX6_init 1 none ∈ wsL_law := wsr_4 _ (List.mem_of_getElem? (i := 2) rfl)
theorem wm_4_3 : Cond.methodLink RX6 3 objectInit ∈ wsL_law := wsr_4 _ (List.mem_of_getElem? (i := 3) rfl)
theorem wm_4_4 : Cond.classLink RX6 11 "[[J" ∈ wsL_law := wsr_4 _ (List.mem_of_getElem? (i := 4) rfl)
theorem wm_4_5 : Cond.arrayClass .long ∈ wsL_law := wsr_4 _ (List.mem_of_getElem? (i := 5) rfl)
theorem wm_4_6 : Cond.fieldLink RX6 13 "AbbeyNotes$Waiting" "means" "[[J" ∈ wsL_law := wsr_4 _ (List.mem_of_getElem? (i := 6) rfl)
theorem wm_4_7 : Cond.instanceMethod yX0_init ∈ wsL_law := wsr_4 _ (List.mem_of_getElem? (i := 7) rfl)
theorem wm_4_8 : Cond.code yX0_init cX0_init 1 none ∈ wsL_law := wsr_4 _ (List.mem_of_getElem? (i := 8) rfl)
theorem wm_4_9 : Cond.methodLink RX0 1 objectInit ∈ wsL_law := wsr_4 _ (List.mem_of_getElem? (i := 9) rfl)
theorem wm_4_10 : Cond.classLink RX0 7 RX2 ∈ wsL_law := wsr_4 _ (List.mem_of_getElem? (i := 10) rfl)
theorem wm_4_11 : Cond.fieldLink RX0 10 "AbbeyNotes$Image" "realm" "LAbbeyNotes$Realm;" ∈ wsL_law := wsr_4 _ (List.mem_of_getElem? (i := 11) rfl)
theorem wm_4_12 : Cond.classLink RX0 16 RX4 ∈ wsL_law := wsr_4 _ (List.mem_of_getElem? (i := 12) rfl)
theorem wm_4_13 : Cond.fieldLink RX0 19 "AbbeyNotes$Image" "sights" "LAbbeyNotes$Sights;" ∈ wsL_law := wsr_4 _ (List.mem_of_getElem? (i := 13) rfl)
theorem wm_4_14 : Cond.methodLink RX0 9 yX2_init ∈ wsL_law := wsr_4 _ (List.mem_of_getElem? (i := 14) rfl)
theorem wm_4_15 : Cond.methodLink RL 12 yX8_init ∈ wsL_law := wsr_4 _ (List.mem_of_getElem? (i := 15) rfl)
theorem wm_4_16 : Cond.instanceMethod yX8_init ∈ wsL_law := wsr_4 _ (List.mem_of_getElem? (i := 16) rfl)
theorem wm_4_17 : Cond.code yX8_init cX8_init 2 none ∈ wsL_law := wsr_4 _ (List.mem_of_getElem? (i := 17) rfl)
theorem wm_4_18 : Cond.methodLink RX8 1 objectInit ∈ wsL_law := wsr_4 _ (List.mem_of_getElem? (i := 18) rfl)
theorem wm_4_19 : Cond.fieldLink RX8 7 "AbbeyNotesModel" "paper" "[I" ∈ wsL_law := wsr_4 _ (List.mem_of_getElem? (i := 19) rfl)
theorem wm_4_20 : Cond.fieldLink RX8 13 "AbbeyNotesModel" "coin" "[I" ∈ wsL_law := wsr_4 _ (List.mem_of_getElem? (i := 20) rfl)
theorem wm_4_21 : Cond.fieldLink RX8 16 "AbbeyNotesModel" "owes" "[I" ∈ wsL_law := wsr_4 _ (List.mem_of_getElem? (i := 21) rfl)
theorem wm_4_22 : Cond.fieldLink RX8 19 "AbbeyNotesModel" "price" "[I" ∈ wsL_law := wsr_4 _ (List.mem_of_getElem? (i := 22) rfl)
theorem wm_4_23 : Cond.fieldLink RX8 22 "AbbeyNotesModel" "owner" "[I" ∈ wsL_law := wsr_4 _ (List.mem_of_getElem? (i := 23) rfl)
theorem wm_5_0 : Cond.fieldLink RX8 25 "AbbeyNotesModel" "sightSet" "[I" ∈ wsL_law := wsr_5 _ (List.mem_of_getElem? (i := 0) rfl)
theorem wm_5_1 : Cond.fieldLink RX8 28 "AbbeyNotesModel" "sightMany" "[I" ∈ wsL_law := wsr_5 _ (List.mem_of_getElem? (i := 1) rfl)
theorem wm_5_2 : Cond.fieldLink RX8 31 "AbbeyNotesModel" "sightHow" "[I" ∈ wsL_law := wsr_5 _ (List.mem_of_getElem? (i := 2) rfl)
theorem wm_5_3 : Cond.fieldLink RX8 34 "AbbeyNotesModel" "pad" "[I" ∈ wsL_law := wsr_5 _ (List.mem_of_getElem? (i := 3) rfl)
theorem wm_5_4 : Cond.fieldLink RX8 37 "AbbeyNotesModel" "act" "[I" ∈ wsL_law := wsr_5 _ (List.mem_of_getElem? (i := 4) rfl)
theorem wm_5_5 : Cond.fieldLink RX8 40 "AbbeyNotesModel" "who" "[I" ∈ wsL_law := wsr_5 _ (List.mem_of_getElem? (i := 5) rfl)
theorem wm_5_6 : Cond.fieldLink RX8 43 "AbbeyNotesModel" "much" "[I" ∈ wsL_law := wsr_5 _ (List.mem_of_getElem? (i := 6) rfl)
theorem wm_5_7 : Cond.fieldLink RX8 46 "AbbeyNotesModel" "had" "[I" ∈ wsL_law := wsr_5 _ (List.mem_of_getElem? (i := 7) rfl)
theorem wm_5_8 : Cond.fieldLink RX8 49 "AbbeyNotesModel" "endRate" "[I" ∈ wsL_law := wsr_5 _ (List.mem_of_getElem? (i := 8) rfl)
theorem wm_5_9 : Cond.fieldLink RX8 52 "AbbeyNotesModel" "net" "[I" ∈ wsL_law := wsr_5 _ (List.mem_of_getElem? (i := 9) rfl)
theorem wm_5_10 : Cond.fieldLink RX8 55 "AbbeyNotesModel" "evenSets" "[I" ∈ wsL_law := wsr_5 _ (List.mem_of_getElem? (i := 10) rfl)
theorem wm_5_11 : Cond.fieldLink RX8 58 "AbbeyNotesModel" "row" "[I" ∈ wsL_law := wsr_5 _ (List.mem_of_getElem? (i := 11) rfl)
theorem wm_5_12 : Cond.fieldLink RX8 61 "AbbeyNotesModel" "brings" "[J" ∈ wsL_law := wsr_5 _ (List.mem_of_getElem? (i := 12) rfl)
theorem wm_5_13 : Cond.fieldLink RX8 65 "AbbeyNotesModel" "bringsThen" "[J" ∈ wsL_law := wsr_5 _ (List.mem_of_getElem? (i := 13) rfl)
theorem wm_5_14 : Cond.fieldLink RX8 68 "AbbeyNotesModel" "choose" "[J" ∈ wsL_law := wsr_5 _ (List.mem_of_getElem? (i := 14) rfl)
theorem wm_5_15 : Cond.fieldLink RX8 71 "AbbeyNotesModel" "kept" "[I" ∈ wsL_law := wsr_5 _ (List.mem_of_getElem? (i := 15) rfl)
theorem wm_5_16 : Cond.arrayClass .boolean ∈ wsL_law := wsr_5 _ (List.mem_of_getElem? (i := 16) rfl)
theorem wm_5_17 : Cond.fieldLink RX8 74 "AbbeyNotesModel" "isKept" "[Z" ∈ wsL_law := wsr_5 _ (List.mem_of_getElem? (i := 17) rfl)
theorem wm_5_18 : Cond.methodLink RL 13 yX7_one ∈ wsL_law := wsr_5 _ (List.mem_of_getElem? (i := 18) rfl)
theorem wm_5_19 : Cond.instanceMethod yX7_one ∈ wsL_law := wsr_5 _ (List.mem_of_getElem? (i := 19) rfl)
theorem wm_5_20 : Cond.selects RX7 yX7_one yX7_one ∈ wsL_law := wsr_5 _ (List.mem_of_getElem? (i := 20) rfl)
theorem wm_5_21 : Cond.code yX7_one cX7_one 5 (some .int) ∈ wsL_law := wsr_5 _ (List.mem_of_getElem? (i := 21) rfl)
theorem wm_5_22 : Cond.fieldLink RX7 66 "AbbeyNotes$Realm" "paper" "[I" ∈ wsL_law := wsr_5 _ (List.mem_of_getElem? (i := 22) rfl)
theorem wm_5_23 : Cond.fieldLink RX7 70 "AbbeyNotes$Realm" "coin" "[I" ∈ wsL_law := wsr_5 _ (List.mem_of_getElem? (i := 23) rfl)
theorem wm_6_0 : Cond.methodLink RX7 58 yX7_isOne ∈ wsL_law := wsr_6 _ (List.mem_of_getElem? (i := 0) rfl)
theorem wm_6_1 : Cond.static yX7_isOne ∈ wsL_law := wsr_6 _ (List.mem_of_getElem? (i := 1) rfl)
theorem wm_6_2 : Cond.code yX7_isOne cX7_isOne 1 (some .boolean) ∈ wsL_law := wsr_6 _ (List.mem_of_getElem? (i := 2) rfl)
theorem wm_6_3 : Cond.methodLink RX7 62 yX7_within ∈ wsL_law := wsr_6 _ (List.mem_of_getElem? (i := 3) rfl)
theorem wm_6_4 : Cond.static yX7_within ∈ wsL_law := wsr_6 _ (List.mem_of_getElem? (i := 4) rfl)
theorem wm_6_5 : Cond.code yX7_within cX7_within 3 (some .boolean) ∈ wsL_law := wsr_6 _ (List.mem_of_getElem? (i := 5) rfl)
theorem wm_6_6 : Cond.methodLink RL 17 yX8_one ∈ wsL_law := wsr_6 _ (List.mem_of_getElem? (i := 6) rfl)
theorem wm_6_7 : Cond.instanceMethod yX8_one ∈ wsL_law := wsr_6 _ (List.mem_of_getElem? (i := 7) rfl)
theorem wm_6_8 : Cond.selects RX8 yX8_one yX8_one ∈ wsL_law := wsr_6 _ (List.mem_of_getElem? (i := 8) rfl)
theorem wm_6_9 : Cond.code yX8_one cX8_one 5 (some .int) ∈ wsL_law := wsr_6 _ (List.mem_of_getElem? (i := 9) rfl)
theorem wm_6_10 : Cond.constantLong RX8 88 (9999) ∈ wsL_law := wsr_6 _ (List.mem_of_getElem? (i := 10) rfl)
theorem wm_6_11 : Cond.methodLink RX8 84 yX8_isOne ∈ wsL_law := wsr_6 _ (List.mem_of_getElem? (i := 11) rfl)
theorem wm_6_12 : Cond.static yX8_isOne ∈ wsL_law := wsr_6 _ (List.mem_of_getElem? (i := 12) rfl)
theorem wm_6_13 : Cond.code yX8_isOne cX8_isOne 1 (some .boolean) ∈ wsL_law := wsr_6 _ (List.mem_of_getElem? (i := 13) rfl)
theorem wm_6_14 : Cond.constantLong RX8 78 (5) ∈ wsL_law := wsr_6 _ (List.mem_of_getElem? (i := 14) rfl)
theorem wm_6_15 : Cond.methodLink RX8 80 yX8_in ∈ wsL_law := wsr_6 _ (List.mem_of_getElem? (i := 15) rfl)
theorem wm_6_16 : Cond.static yX8_in ∈ wsL_law := wsr_6 _ (List.mem_of_getElem? (i := 16) rfl)
theorem wm_6_17 : Cond.code yX8_in cX8_in 6 (some .boolean) ∈ wsL_law := wsr_6 _ (List.mem_of_getElem? (i := 17) rfl)
theorem wm_6_18 : Cond.methodLink RL 18 yX7_owe ∈ wsL_law := wsr_6 _ (List.mem_of_getElem? (i := 18) rfl)
theorem wm_6_19 : Cond.instanceMethod yX7_owe ∈ wsL_law := wsr_6 _ (List.mem_of_getElem? (i := 19) rfl)
theorem wm_6_20 : Cond.selects RX7 yX7_owe yX7_owe ∈ wsL_law := wsr_6 _ (List.mem_of_getElem? (i := 20) rfl)
theorem wm_6_21 : Cond.code yX7_owe cX7_owe 5 (some .int) ∈ wsL_law := wsr_6 _ (List.mem_of_getElem? (i := 21) rfl)
theorem wm_6_22 : Cond.fieldLink RX7 73 "AbbeyNotes$Realm" "owes" "[[I" ∈ wsL_law := wsr_6 _ (List.mem_of_getElem? (i := 22) rfl)
theorem wm_6_23 : Cond.methodLink RL 21 yX8_owe ∈ wsL_law := wsr_6 _ (List.mem_of_getElem? (i := 23) rfl)
theorem wm_7_0 : Cond.instanceMethod yX8_owe ∈ wsL_law := wsr_7 _ (List.mem_of_getElem? (i := 0) rfl)
theorem wm_7_1 : Cond.selects RX8 yX8_owe yX8_owe ∈ wsL_law := wsr_7 _ (List.mem_of_getElem? (i := 1) rfl)
theorem wm_7_2 : Cond.code yX8_owe cX8_owe 5 (some .int) ∈ wsL_law := wsr_7 _ (List.mem_of_getElem? (i := 2) rfl)
theorem wm_7_3 : Cond.constantLong RX8 90 (999) ∈ wsL_law := wsr_7 _ (List.mem_of_getElem? (i := 3) rfl)
theorem wm_7_4 : Cond.methodLink RL 22 yX7_lot ∈ wsL_law := wsr_7 _ (List.mem_of_getElem? (i := 4) rfl)
theorem wm_7_5 : Cond.instanceMethod yX7_lot ∈ wsL_law := wsr_7 _ (List.mem_of_getElem? (i := 5) rfl)
theorem wm_7_6 : Cond.selects RX7 yX7_lot yX7_lot ∈ wsL_law := wsr_7 _ (List.mem_of_getElem? (i := 6) rfl)
theorem wm_7_7 : Cond.code yX7_lot cX7_lot 5 (some .int) ∈ wsL_law := wsr_7 _ (List.mem_of_getElem? (i := 7) rfl)
theorem wm_7_8 : Cond.fieldLink RX7 77 "AbbeyNotes$Realm" "price" "[I" ∈ wsL_law := wsr_7 _ (List.mem_of_getElem? (i := 8) rfl)
theorem wm_7_9 : Cond.fieldLink RX7 80 "AbbeyNotes$Realm" "owner" "[I" ∈ wsL_law := wsr_7 _ (List.mem_of_getElem? (i := 9) rfl)
theorem wm_7_10 : Cond.methodLink RL 25 yX8_lot ∈ wsL_law := wsr_7 _ (List.mem_of_getElem? (i := 10) rfl)
theorem wm_7_11 : Cond.instanceMethod yX8_lot ∈ wsL_law := wsr_7 _ (List.mem_of_getElem? (i := 11) rfl)
theorem wm_7_12 : Cond.selects RX8 yX8_lot yX8_lot ∈ wsL_law := wsr_7 _ (List.mem_of_getElem? (i := 12) rfl)
theorem wm_7_13 : Cond.code yX8_lot cX8_lot 5 (some .int) ∈ wsL_law := wsr_7 _ (List.mem_of_getElem? (i := 13) rfl)
theorem wm_7_14 : Cond.constantLong RX8 92 (7) ∈ wsL_law := wsr_7 _ (List.mem_of_getElem? (i := 14) rfl)
theorem wm_7_15 : Cond.constantLong RX8 94 (-1) ∈ wsL_law := wsr_7 _ (List.mem_of_getElem? (i := 15) rfl)
theorem wm_7_16 : Cond.methodLink RL 26 yX7_set ∈ wsL_law := wsr_7 _ (List.mem_of_getElem? (i := 16) rfl)
theorem wm_7_17 : Cond.instanceMethod yX7_set ∈ wsL_law := wsr_7 _ (List.mem_of_getElem? (i := 17) rfl)
theorem wm_7_18 : Cond.selects RX7 yX7_set yX7_set ∈ wsL_law := wsr_7 _ (List.mem_of_getElem? (i := 18) rfl)
theorem wm_7_19 : Cond.code yX7_set cX7_set 4 (some .int) ∈ wsL_law := wsr_7 _ (List.mem_of_getElem? (i := 19) rfl)
theorem wm_7_20 : Cond.constant RX7 83 (99999) ∈ wsL_law := wsr_7 _ (List.mem_of_getElem? (i := 20) rfl)
theorem wm_7_21 : Cond.fieldLink RX7 84 "AbbeyNotes$Realm" "statePaper" "I" ∈ wsL_law := wsr_7 _ (List.mem_of_getElem? (i := 21) rfl)
theorem wm_7_22 : Cond.fieldLink RX7 88 "AbbeyNotes$Realm" "forged" "I" ∈ wsL_law := wsr_7 _ (List.mem_of_getElem? (i := 22) rfl)
theorem wm_7_23 : Cond.methodLink RL 30 yX8_set ∈ wsL_law := wsr_7 _ (List.mem_of_getElem? (i := 23) rfl)
theorem wm_8_0 : Cond.instanceMethod yX8_set ∈ wsL_law := wsr_8 _ (List.mem_of_getElem? (i := 0) rfl)
theorem wm_8_1 : Cond.selects RX8 yX8_set yX8_set ∈ wsL_law := wsr_8 _ (List.mem_of_getElem? (i := 1) rfl)
theorem wm_8_2 : Cond.code yX8_set cX8_set 4 (some .int) ∈ wsL_law := wsr_8 _ (List.mem_of_getElem? (i := 2) rfl)
theorem wm_8_3 : Cond.constantLong RX8 96 (99999) ∈ wsL_law := wsr_8 _ (List.mem_of_getElem? (i := 3) rfl)
theorem wm_8_4 : Cond.fieldLink RX8 98 "AbbeyNotesModel" "chest" "I" ∈ wsL_law := wsr_8 _ (List.mem_of_getElem? (i := 4) rfl)
theorem wm_8_5 : Cond.fieldLink RX8 102 "AbbeyNotesModel" "forged" "I" ∈ wsL_law := wsr_8 _ (List.mem_of_getElem? (i := 5) rfl)
theorem wm_8_6 : Cond.methodLink RL 31 yX7_say ∈ wsL_law := wsr_8 _ (List.mem_of_getElem? (i := 6) rfl)
theorem wm_8_7 : Cond.instanceMethod yX7_say ∈ wsL_law := wsr_8 _ (List.mem_of_getElem? (i := 7) rfl)
theorem wm_8_8 : Cond.selects RX7 yX7_say yX7_say ∈ wsL_law := wsr_8 _ (List.mem_of_getElem? (i := 8) rfl)
theorem wm_8_9 : Cond.code yX7_say cX7_say 2 (some .int) ∈ wsL_law := wsr_8 _ (List.mem_of_getElem? (i := 9) rfl)
theorem wm_8_10 : Cond.fieldLink RX7 91 "AbbeyNotes$Pad" "size" "I" ∈ wsL_law := wsr_8 _ (List.mem_of_getElem? (i := 10) rfl)
theorem wm_8_11 : Cond.methodLink RX7 94 yX1_add ∈ wsL_law := wsr_8 _ (List.mem_of_getElem? (i := 11) rfl)
theorem wm_8_12 : Cond.instanceMethod yX1_add ∈ wsL_law := wsr_8 _ (List.mem_of_getElem? (i := 12) rfl)
theorem wm_8_13 : Cond.selects RX1 yX1_add yX1_add ∈ wsL_law := wsr_8 _ (List.mem_of_getElem? (i := 13) rfl)
theorem wm_8_14 : Cond.code yX1_add cX1_add 2 none ∈ wsL_law := wsr_8 _ (List.mem_of_getElem? (i := 14) rfl)
theorem wm_8_15 : Cond.fieldLink RX1 15 "AbbeyNotes$Pad" "size" "I" ∈ wsL_law := wsr_8 _ (List.mem_of_getElem? (i := 15) rfl)
theorem wm_8_16 : Cond.methodLink RL 35 yX8_say ∈ wsL_law := wsr_8 _ (List.mem_of_getElem? (i := 16) rfl)
theorem wm_8_17 : Cond.instanceMethod yX8_say ∈ wsL_law := wsr_8 _ (List.mem_of_getElem? (i := 17) rfl)
theorem wm_8_18 : Cond.selects RX8 yX8_say yX8_say ∈ wsL_law := wsr_8 _ (List.mem_of_getElem? (i := 18) rfl)
theorem wm_8_19 : Cond.code yX8_say cX8_say 2 (some .int) ∈ wsL_law := wsr_8 _ (List.mem_of_getElem? (i := 19) rfl)
theorem wm_8_20 : Cond.constantLong RX8 105 (33) ∈ wsL_law := wsr_8 _ (List.mem_of_getElem? (i := 20) rfl)
theorem wm_8_21 : Cond.constantLong RX8 107 (126) ∈ wsL_law := wsr_8 _ (List.mem_of_getElem? (i := 21) rfl)
theorem wm_8_22 : Cond.fieldLink RX8 109 "AbbeyNotesModel" "padMany" "I" ∈ wsL_law := wsr_8 _ (List.mem_of_getElem? (i := 22) rfl)
theorem wm_8_23 : Cond.methodLink RL 36 yX7_wipe ∈ wsL_law := wsr_8 _ (List.mem_of_getElem? (i := 23) rfl)
theorem wm_9_0 : Cond.instanceMethod yX7_wipe ∈ wsL_law := wsr_9 _ (List.mem_of_getElem? (i := 0) rfl)
theorem wm_9_1 : Cond.selects RX7 yX7_wipe yX7_wipe ∈ wsL_law := wsr_9 _ (List.mem_of_getElem? (i := 1) rfl)
theorem wm_9_2 : Cond.code yX7_wipe cX7_wipe 2 (some .int) ∈ wsL_law := wsr_9 _ (List.mem_of_getElem? (i := 2) rfl)
theorem wm_9_3 : Cond.methodLink RL 40 yX8_wipe ∈ wsL_law := wsr_9 _ (List.mem_of_getElem? (i := 3) rfl)
theorem wm_9_4 : Cond.instanceMethod yX8_wipe ∈ wsL_law := wsr_9 _ (List.mem_of_getElem? (i := 4) rfl)
theorem wm_9_5 : Cond.selects RX8 yX8_wipe yX8_wipe ∈ wsL_law := wsr_9 _ (List.mem_of_getElem? (i := 5) rfl)
theorem wm_9_6 : Cond.code yX8_wipe cX8_wipe 2 (some .int) ∈ wsL_law := wsr_9 _ (List.mem_of_getElem? (i := 6) rfl)
theorem wm_9_7 : Cond.methodLink RL 41 yX7_fault ∈ wsL_law := wsr_9 _ (List.mem_of_getElem? (i := 7) rfl)
theorem wm_9_8 : Cond.instanceMethod yX7_fault ∈ wsL_law := wsr_9 _ (List.mem_of_getElem? (i := 8) rfl)
theorem wm_9_9 : Cond.selects RX7 yX7_fault yX7_fault ∈ wsL_law := wsr_9 _ (List.mem_of_getElem? (i := 9) rfl)
theorem wm_9_10 : Cond.code yX7_fault cX7_fault 1 (some .int) ∈ wsL_law := wsr_9 _ (List.mem_of_getElem? (i := 10) rfl)
theorem wm_9_11 : Cond.methodLink RX7 98 yX1_faultPlace ∈ wsL_law := wsr_9 _ (List.mem_of_getElem? (i := 11) rfl)
theorem wm_9_12 : Cond.instanceMethod yX1_faultPlace ∈ wsL_law := wsr_9 _ (List.mem_of_getElem? (i := 12) rfl)
theorem wm_9_13 : Cond.selects RX1 yX1_faultPlace yX1_faultPlace ∈ wsL_law := wsr_9 _ (List.mem_of_getElem? (i := 13) rfl)
theorem wm_9_14 : Cond.code yX1_faultPlace cX1_faultPlace 3 (some .int) ∈ wsL_law := wsr_9 _ (List.mem_of_getElem? (i := 14) rfl)
theorem wm_9_15 : Cond.methodLink RX1 19 yX1_nextBehind ∈ wsL_law := wsr_9 _ (List.mem_of_getElem? (i := 15) rfl)
theorem wm_9_16 : Cond.static yX1_nextBehind ∈ wsL_law := wsr_9 _ (List.mem_of_getElem? (i := 16) rfl)
theorem wm_9_17 : Cond.code yX1_nextBehind cX1_nextBehind 2 (some .int) ∈ wsL_law := wsr_9 _ (List.mem_of_getElem? (i := 17) rfl)
theorem wm_9_18 : Cond.methodLink RX1 23 yX1_nextBehindFirst ∈ wsL_law := wsr_9 _ (List.mem_of_getElem? (i := 18) rfl)
theorem wm_9_19 : Cond.static yX1_nextBehindFirst ∈ wsL_law := wsr_9 _ (List.mem_of_getElem? (i := 19) rfl)
theorem wm_9_20 : Cond.code yX1_nextBehindFirst cX1_nextBehindFirst 1 (some .int) ∈ wsL_law := wsr_9 _ (List.mem_of_getElem? (i := 20) rfl)
theorem wm_9_21 : Cond.methodLink RX1 31 yX1_isLetter ∈ wsL_law := wsr_9 _ (List.mem_of_getElem? (i := 21) rfl)
theorem wm_9_22 : Cond.static yX1_isLetter ∈ wsL_law := wsr_9 _ (List.mem_of_getElem? (i := 22) rfl)
theorem wm_9_23 : Cond.code yX1_isLetter cX1_isLetter 1 (some .boolean) ∈ wsL_law := wsr_9 _ (List.mem_of_getElem? (i := 23) rfl)
theorem wm_10_0 : Cond.methodLink RX1 35 yX1_nextBehindDeed ∈ wsL_law := wsr_10 _ (List.mem_of_getElem? (i := 0) rfl)
theorem wm_10_1 : Cond.static yX1_nextBehindDeed ∈ wsL_law := wsr_10 _ (List.mem_of_getElem? (i := 1) rfl)
theorem wm_10_2 : Cond.code yX1_nextBehindDeed cX1_nextBehindDeed 1 (some .int) ∈ wsL_law := wsr_10 _ (List.mem_of_getElem? (i := 2) rfl)
theorem wm_10_3 : Cond.methodLink RL 44 yX8_fault ∈ wsL_law := wsr_10 _ (List.mem_of_getElem? (i := 3) rfl)
theorem wm_10_4 : Cond.instanceMethod yX8_fault ∈ wsL_law := wsr_10 _ (List.mem_of_getElem? (i := 4) rfl)
theorem wm_10_5 : Cond.selects RX8 yX8_fault yX8_fault ∈ wsL_law := wsr_10 _ (List.mem_of_getElem? (i := 5) rfl)
theorem wm_10_6 : Cond.code yX8_fault cX8_fault 3 (some .int) ∈ wsL_law := wsr_10 _ (List.mem_of_getElem? (i := 6) rfl)
theorem wm_10_7 : Cond.fieldLink RX8 112 "AbbeyNotesModel" "acts" "I" ∈ wsL_law := wsr_10 _ (List.mem_of_getElem? (i := 7) rfl)
theorem wm_10_8 : Cond.methodLink RX8 148 yX8_readOn ∈ wsL_law := wsr_10 _ (List.mem_of_getElem? (i := 8) rfl)
theorem wm_10_9 : Cond.instanceMethod yX8_readOn ∈ wsL_law := wsr_10 _ (List.mem_of_getElem? (i := 9) rfl)
theorem wm_10_10 : Cond.selects RX8 yX8_readOn yX8_readOn ∈ wsL_law := wsr_10 _ (List.mem_of_getElem? (i := 10) rfl)
theorem wm_10_11 : Cond.code yX8_readOn cX8_readOn 3 (some .int) ∈ wsL_law := wsr_10 _ (List.mem_of_getElem? (i := 11) rfl)
theorem wm_10_12 : Cond.constantLong RX8 144 (48) ∈ wsL_law := wsr_10 _ (List.mem_of_getElem? (i := 12) rfl)
theorem wm_10_13 : Cond.constantLong RX8 146 (55) ∈ wsL_law := wsr_10 _ (List.mem_of_getElem? (i := 13) rfl)
theorem wm_10_14 : Cond.methodLink RX8 130 yX8_begin ∈ wsL_law := wsr_10 _ (List.mem_of_getElem? (i := 14) rfl)
theorem wm_10_15 : Cond.instanceMethod yX8_begin ∈ wsL_law := wsr_10 _ (List.mem_of_getElem? (i := 15) rfl)
theorem wm_10_16 : Cond.selects RX8 yX8_begin yX8_begin ∈ wsL_law := wsr_10 _ (List.mem_of_getElem? (i := 16) rfl)
theorem wm_10_17 : Cond.code yX8_begin cX8_begin 2 (some .int) ∈ wsL_law := wsr_10 _ (List.mem_of_getElem? (i := 17) rfl)
theorem wm_10_18 : Cond.methodLink RX8 119 yX8_isLetter ∈ wsL_law := wsr_10 _ (List.mem_of_getElem? (i := 18) rfl)
theorem wm_10_19 : Cond.static yX8_isLetter ∈ wsL_law := wsr_10 _ (List.mem_of_getElem? (i := 19) rfl)
theorem wm_10_20 : Cond.code yX8_isLetter cX8_isLetter 1 (some .boolean) ∈ wsL_law := wsr_10 _ (List.mem_of_getElem? (i := 20) rfl)
theorem wm_10_21 : Cond.constantLong RX8 115 (65) ∈ wsL_law := wsr_10 _ (List.mem_of_getElem? (i := 21) rfl)
theorem wm_10_22 : Cond.constantLong RX8 117 (70) ∈ wsL_law := wsr_10 _ (List.mem_of_getElem? (i := 22) rfl)
theorem wm_10_23 : Cond.methodLink RX8 122 yX8_close ∈ wsL_law := wsr_10 _ (List.mem_of_getElem? (i := 23) rfl)
theorem wm_11_0 : Cond.instanceMethod yX8_close ∈ wsL_law := wsr_11 _ (List.mem_of_getElem? (i := 0) rfl)
theorem wm_11_1 : Cond.selects RX8 yX8_close yX8_close ∈ wsL_law := wsr_11 _ (List.mem_of_getElem? (i := 1) rfl)
theorem wm_11_2 : Cond.code yX8_close cX8_close 3 (some .int) ∈ wsL_law := wsr_11 _ (List.mem_of_getElem? (i := 2) rfl)
theorem wm_11_3 : Cond.methodLink RX8 134 yX8_deed ∈ wsL_law := wsr_11 _ (List.mem_of_getElem? (i := 3) rfl)
theorem wm_11_4 : Cond.static yX8_deed ∈ wsL_law := wsr_11 _ (List.mem_of_getElem? (i := 4) rfl)
theorem wm_11_5 : Cond.code yX8_deed cX8_deed 1 (some .int) ∈ wsL_law := wsr_11 _ (List.mem_of_getElem? (i := 5) rfl)
theorem wm_11_6 : Cond.methodLink RX8 137 yX8_number ∈ wsL_law := wsr_11 _ (List.mem_of_getElem? (i := 6) rfl)
theorem wm_11_7 : Cond.instanceMethod yX8_number ∈ wsL_law := wsr_11 _ (List.mem_of_getElem? (i := 7) rfl)
theorem wm_11_8 : Cond.selects RX8 yX8_number yX8_number ∈ wsL_law := wsr_11 _ (List.mem_of_getElem? (i := 8) rfl)
theorem wm_11_9 : Cond.code yX8_number cX8_number 4 (some .int) ∈ wsL_law := wsr_11 _ (List.mem_of_getElem? (i := 9) rfl)
theorem wm_11_10 : Cond.constantLong RX8 126 (49) ∈ wsL_law := wsr_11 _ (List.mem_of_getElem? (i := 10) rfl)
theorem wm_11_11 : Cond.constantLong RX8 128 (57) ∈ wsL_law := wsr_11 _ (List.mem_of_getElem? (i := 11) rfl)
theorem wm_11_12 : Cond.methodLink RX8 141 yX8_forWhom ∈ wsL_law := wsr_11 _ (List.mem_of_getElem? (i := 12) rfl)
theorem wm_11_13 : Cond.instanceMethod yX8_forWhom ∈ wsL_law := wsr_11 _ (List.mem_of_getElem? (i := 13) rfl)
theorem wm_11_14 : Cond.selects RX8 yX8_forWhom yX8_forWhom ∈ wsL_law := wsr_11 _ (List.mem_of_getElem? (i := 14) rfl)
theorem wm_11_15 : Cond.code yX8_forWhom cX8_forWhom 2 (some .int) ∈ wsL_law := wsr_11 _ (List.mem_of_getElem? (i := 15) rfl)
theorem wm_11_16 : Cond.methodLink RL 45 yX7_judge ∈ wsL_law := wsr_11 _ (List.mem_of_getElem? (i := 16) rfl)
theorem wm_11_17 : Cond.instanceMethod yX7_judge ∈ wsL_law := wsr_11 _ (List.mem_of_getElem? (i := 17) rfl)
theorem wm_11_18 : Cond.selects RX7 yX7_judge yX7_judge ∈ wsL_law := wsr_11 _ (List.mem_of_getElem? (i := 18) rfl)
theorem wm_11_19 : Cond.code yX7_judge cX7_judge 3 (some .int) ∈ wsL_law := wsr_11 _ (List.mem_of_getElem? (i := 19) rfl)
theorem wm_11_20 : Cond.fieldLink RX7 106 "AbbeyNotes$Trial" "ended" "I" ∈ wsL_law := wsr_11 _ (List.mem_of_getElem? (i := 20) rfl)
theorem wm_11_21 : Cond.fieldLink RX7 109 "AbbeyNotes$Trial" "why" "I" ∈ wsL_law := wsr_11 _ (List.mem_of_getElem? (i := 21) rfl)
theorem wm_11_22 : Cond.fieldLink RX7 112 "AbbeyNotes$Trial" "acts" "I" ∈ wsL_law := wsr_11 _ (List.mem_of_getElem? (i := 22) rfl)
theorem wm_11_23 : Cond.methodLink RX7 102 yX7_tryMonths ∈ wsL_law := wsr_11 _ (List.mem_of_getElem? (i := 23) rfl)
theorem wm_12_0 : Cond.instanceMethod yX7_tryMonths ∈ wsL_law := wsr_12 _ (List.mem_of_getElem? (i := 0) rfl)
theorem wm_12_1 : Cond.selects RX7 yX7_tryMonths yX7_tryMonths ∈ wsL_law := wsr_12 _ (List.mem_of_getElem? (i := 1) rfl)
theorem wm_12_2 : Cond.code yX7_tryMonths cX7_tryMonths 2 (some .int) ∈ wsL_law := wsr_12 _ (List.mem_of_getElem? (i := 2) rfl)
theorem wm_12_3 : Cond.methodLink RX7 153 yX5_follow ∈ wsL_law := wsr_12 _ (List.mem_of_getElem? (i := 3) rfl)
theorem wm_12_4 : Cond.instanceMethod yX5_follow ∈ wsL_law := wsr_12 _ (List.mem_of_getElem? (i := 4) rfl)
theorem wm_12_5 : Cond.selects RX5 yX5_follow yX5_follow ∈ wsL_law := wsr_12 _ (List.mem_of_getElem? (i := 5) rfl)
theorem wm_12_6 : Cond.code yX5_follow cX5_follow 5 none ∈ wsL_law := wsr_12 _ (List.mem_of_getElem? (i := 6) rfl)
theorem wm_12_7 : Cond.fieldLink RX5 22 "AbbeyNotes$Trial" "why" "I" ∈ wsL_law := wsr_12 _ (List.mem_of_getElem? (i := 7) rfl)
theorem wm_12_8 : Cond.fieldLink RX5 26 "AbbeyNotes$Trial" "ended" "I" ∈ wsL_law := wsr_12 _ (List.mem_of_getElem? (i := 8) rfl)
theorem wm_12_9 : Cond.fieldLink RX5 29 "AbbeyNotes$Trial" "fellIn" "I" ∈ wsL_law := wsr_12 _ (List.mem_of_getElem? (i := 9) rfl)
theorem wm_12_10 : Cond.fieldLink RX5 32 "AbbeyNotes$Trial" "acts" "I" ∈ wsL_law := wsr_12 _ (List.mem_of_getElem? (i := 10) rfl)
theorem wm_12_11 : Cond.fieldLink RX5 35 "AbbeyNotes$Pad" "size" "I" ∈ wsL_law := wsr_12 _ (List.mem_of_getElem? (i := 11) rfl)
theorem wm_12_12 : Cond.fieldLink RX5 44 "AbbeyNotes$Trial" "kind" "I" ∈ wsL_law := wsr_12 _ (List.mem_of_getElem? (i := 12) rfl)
theorem wm_12_13 : Cond.fieldLink RX5 47 "AbbeyNotes$Trial" "who" "I" ∈ wsL_law := wsr_12 _ (List.mem_of_getElem? (i := 13) rfl)
theorem wm_12_14 : Cond.fieldLink RX5 50 "AbbeyNotes$Trial" "number" "I" ∈ wsL_law := wsr_12 _ (List.mem_of_getElem? (i := 14) rfl)
theorem wm_12_15 : Cond.fieldLink RX5 61 "AbbeyNotes$Trial" "length" "I" ∈ wsL_law := wsr_12 _ (List.mem_of_getElem? (i := 15) rfl)
theorem wm_12_16 : Cond.methodLink RX5 18 yX2_copyFrom ∈ wsL_law := wsr_12 _ (List.mem_of_getElem? (i := 16) rfl)
theorem wm_12_17 : Cond.instanceMethod yX2_copyFrom ∈ wsL_law := wsr_12 _ (List.mem_of_getElem? (i := 17) rfl)
theorem wm_12_18 : Cond.selects RX2 yX2_copyFrom yX2_copyFrom ∈ wsL_law := wsr_12 _ (List.mem_of_getElem? (i := 18) rfl)
theorem wm_12_19 : Cond.code yX2_copyFrom cX2_copyFrom 3 none ∈ wsL_law := wsr_12 _ (List.mem_of_getElem? (i := 19) rfl)
theorem wm_12_20 : Cond.methodLink RX2 29 arraycopyName ∈ wsL_law := wsr_12 _ (List.mem_of_getElem? (i := 20) rfl)
theorem wm_12_21 : Cond.native arraycopyName ∈ wsL_law := wsr_12 _ (List.mem_of_getElem? (i := 21) rfl)
theorem wm_12_22 : Cond.static arraycopyName ∈ wsL_law := wsr_12 _ (List.mem_of_getElem? (i := 22) rfl)
theorem wm_12_23 : Cond.initialized "java/lang/System" ∈ wsL_law := wsr_12 _ (List.mem_of_getElem? (i := 23) rfl)
theorem wm_13_0 : Cond.fieldLink RX2 35 "AbbeyNotes$Realm" "statePaper" "I" ∈ wsL_law := wsr_13 _ (List.mem_of_getElem? (i := 0) rfl)
theorem wm_13_1 : Cond.fieldLink RX2 39 "AbbeyNotes$Realm" "forged" "I" ∈ wsL_law := wsr_13 _ (List.mem_of_getElem? (i := 1) rfl)
theorem wm_13_2 : Cond.fieldLink RX2 42 "AbbeyNotes$Realm" "burnt" "I" ∈ wsL_law := wsr_13 _ (List.mem_of_getElem? (i := 2) rfl)
theorem wm_13_3 : Cond.fieldLink RX2 45 "AbbeyNotes$Realm" "months" "I" ∈ wsL_law := wsr_13 _ (List.mem_of_getElem? (i := 3) rfl)
theorem wm_13_4 : Cond.methodLink RX5 40 yX5_read ∈ wsL_law := wsr_13 _ (List.mem_of_getElem? (i := 4) rfl)
theorem wm_13_5 : Cond.instanceMethod yX5_read ∈ wsL_law := wsr_13 _ (List.mem_of_getElem? (i := 5) rfl)
theorem wm_13_6 : Cond.selects RX5 yX5_read yX5_read ∈ wsL_law := wsr_13 _ (List.mem_of_getElem? (i := 6) rfl)
theorem wm_13_7 : Cond.code yX5_read cX5_read 5 none ∈ wsL_law := wsr_13 _ (List.mem_of_getElem? (i := 7) rfl)
theorem wm_13_8 : Cond.methodLink RX5 68 yX1_signAt ∈ wsL_law := wsr_13 _ (List.mem_of_getElem? (i := 8) rfl)
theorem wm_13_9 : Cond.instanceMethod yX1_signAt ∈ wsL_law := wsr_13 _ (List.mem_of_getElem? (i := 9) rfl)
theorem wm_13_10 : Cond.selects RX1 yX1_signAt yX1_signAt ∈ wsL_law := wsr_13 _ (List.mem_of_getElem? (i := 10) rfl)
theorem wm_13_11 : Cond.code yX1_signAt cX1_signAt 2 (some .int) ∈ wsL_law := wsr_13 _ (List.mem_of_getElem? (i := 11) rfl)
theorem wm_13_12 : Cond.methodLink RX5 72 yX5_kindOf ∈ wsL_law := wsr_13 _ (List.mem_of_getElem? (i := 12) rfl)
theorem wm_13_13 : Cond.static yX5_kindOf ∈ wsL_law := wsr_13 _ (List.mem_of_getElem? (i := 13) rfl)
theorem wm_13_14 : Cond.code yX5_kindOf cX5_kindOf 2 (some .int) ∈ wsL_law := wsr_13 _ (List.mem_of_getElem? (i := 14) rfl)
theorem wm_13_15 : Cond.methodLink RX5 76 yX5_kindOfDeed ∈ wsL_law := wsr_13 _ (List.mem_of_getElem? (i := 15) rfl)
theorem wm_13_16 : Cond.static yX5_kindOfDeed ∈ wsL_law := wsr_13 _ (List.mem_of_getElem? (i := 16) rfl)
theorem wm_13_17 : Cond.code yX5_kindOfDeed cX5_kindOfDeed 1 (some .int) ∈ wsL_law := wsr_13 _ (List.mem_of_getElem? (i := 17) rfl)
theorem wm_13_18 : Cond.methodLink RX5 53 yX2_act ∈ wsL_law := wsr_13 _ (List.mem_of_getElem? (i := 18) rfl)
theorem wm_13_19 : Cond.instanceMethod yX2_act ∈ wsL_law := wsr_13 _ (List.mem_of_getElem? (i := 19) rfl)
theorem wm_13_20 : Cond.selects RX2 yX2_act yX2_act ∈ wsL_law := wsr_13 _ (List.mem_of_getElem? (i := 20) rfl)
theorem wm_13_21 : Cond.code yX2_act cX2_act 4 (some .int) ∈ wsL_law := wsr_13 _ (List.mem_of_getElem? (i := 21) rfl)
theorem wm_13_22 : Cond.methodLink RX2 66 yX2_printed ∈ wsL_law := wsr_13 _ (List.mem_of_getElem? (i := 22) rfl)
theorem wm_13_23 : Cond.instanceMethod yX2_printed ∈ wsL_law := wsr_13 _ (List.mem_of_getElem? (i := 23) rfl)
theorem wm_14_0 : Cond.selects RX2 yX2_printed yX2_printed ∈ wsL_law := wsr_14 _ (List.mem_of_getElem? (i := 0) rfl)
theorem wm_14_1 : Cond.code yX2_printed cX2_printed 2 (some .int) ∈ wsL_law := wsr_14 _ (List.mem_of_getElem? (i := 1) rfl)
theorem wm_14_2 : Cond.constant RX2 87 (99999) ∈ wsL_law := wsr_14 _ (List.mem_of_getElem? (i := 2) rfl)
theorem wm_14_3 : Cond.methodLink RX2 69 yX2_paidByState ∈ wsL_law := wsr_14 _ (List.mem_of_getElem? (i := 3) rfl)
theorem wm_14_4 : Cond.instanceMethod yX2_paidByState ∈ wsL_law := wsr_14 _ (List.mem_of_getElem? (i := 4) rfl)
theorem wm_14_5 : Cond.selects RX2 yX2_paidByState yX2_paidByState ∈ wsL_law := wsr_14 _ (List.mem_of_getElem? (i := 5) rfl)
theorem wm_14_6 : Cond.code yX2_paidByState cX2_paidByState 3 (some .int) ∈ wsL_law := wsr_14 _ (List.mem_of_getElem? (i := 6) rfl)
theorem wm_14_7 : Cond.methodLink RX2 72 yX2_bought ∈ wsL_law := wsr_14 _ (List.mem_of_getElem? (i := 7) rfl)
theorem wm_14_8 : Cond.instanceMethod yX2_bought ∈ wsL_law := wsr_14 _ (List.mem_of_getElem? (i := 8) rfl)
theorem wm_14_9 : Cond.selects RX2 yX2_bought yX2_bought ∈ wsL_law := wsr_14 _ (List.mem_of_getElem? (i := 9) rfl)
theorem wm_14_10 : Cond.code yX2_bought cX2_bought 3 (some .int) ∈ wsL_law := wsr_14 _ (List.mem_of_getElem? (i := 10) rfl)
theorem wm_14_11 : Cond.methodLink RX2 75 yX2_exchanged ∈ wsL_law := wsr_14 _ (List.mem_of_getElem? (i := 11) rfl)
theorem wm_14_12 : Cond.instanceMethod yX2_exchanged ∈ wsL_law := wsr_14 _ (List.mem_of_getElem? (i := 12) rfl)
theorem wm_14_13 : Cond.selects RX2 yX2_exchanged yX2_exchanged ∈ wsL_law := wsr_14 _ (List.mem_of_getElem? (i := 13) rfl)
theorem wm_14_14 : Cond.code yX2_exchanged cX2_exchanged 4 (some .int) ∈ wsL_law := wsr_14 _ (List.mem_of_getElem? (i := 14) rfl)
theorem wm_14_15 : Cond.methodLink RX2 88 yX2_rate ∈ wsL_law := wsr_14 _ (List.mem_of_getElem? (i := 15) rfl)
theorem wm_14_16 : Cond.instanceMethod yX2_rate ∈ wsL_law := wsr_14 _ (List.mem_of_getElem? (i := 16) rfl)
theorem wm_14_17 : Cond.selects RX2 yX2_rate yX2_rate ∈ wsL_law := wsr_14 _ (List.mem_of_getElem? (i := 17) rfl)
theorem wm_14_18 : Cond.code yX2_rate cX2_rate 1 (some .int) ∈ wsL_law := wsr_14 _ (List.mem_of_getElem? (i := 18) rfl)
theorem wm_14_19 : Cond.methodLink RX2 48 yX2_land ∈ wsL_law := wsr_14 _ (List.mem_of_getElem? (i := 19) rfl)
theorem wm_14_20 : Cond.instanceMethod yX2_land ∈ wsL_law := wsr_14 _ (List.mem_of_getElem? (i := 20) rfl)
theorem wm_14_21 : Cond.selects RX2 yX2_land yX2_land ∈ wsL_law := wsr_14 _ (List.mem_of_getElem? (i := 21) rfl)
theorem wm_14_22 : Cond.code yX2_land cX2_land 3 (some .int) ∈ wsL_law := wsr_14 _ (List.mem_of_getElem? (i := 22) rfl)
theorem wm_14_23 : Cond.methodLink RX2 52 yX2_notes ∈ wsL_law := wsr_14 _ (List.mem_of_getElem? (i := 23) rfl)
theorem wm_15_0 : Cond.instanceMethod yX2_notes ∈ wsL_law := wsr_15 _ (List.mem_of_getElem? (i := 0) rfl)
theorem wm_15_1 : Cond.selects RX2 yX2_notes yX2_notes ∈ wsL_law := wsr_15 _ (List.mem_of_getElem? (i := 1) rfl)
theorem wm_15_2 : Cond.code yX2_notes cX2_notes 3 (some .int) ∈ wsL_law := wsr_15 _ (List.mem_of_getElem? (i := 2) rfl)
theorem wm_15_3 : Cond.static yX7_rateOf ∈ wsL_law := wsr_15 _ (List.mem_of_getElem? (i := 3) rfl)
theorem wm_15_4 : Cond.code yX7_rateOf cX7_rateOf 2 (some .int) ∈ wsL_law := wsr_15 _ (List.mem_of_getElem? (i := 4) rfl)
theorem wm_15_5 : Cond.methodLink RX7 157 Lib.Math.min.name ∈ wsL_law := wsr_15 _ (List.mem_of_getElem? (i := 5) rfl)
theorem wm_15_6 : Cond.static Lib.Math.min.name ∈ wsL_law := wsr_15 _ (List.mem_of_getElem? (i := 6) rfl)
theorem wm_15_7 : Cond.initialized "java/lang/Math" ∈ wsL_law := wsr_15 _ (List.mem_of_getElem? (i := 7) rfl)
theorem wm_15_8 : Cond.code Lib.Math.min.name Lib.Math.min.code 2 (some .int) ∈ wsL_law := wsr_15 _ (List.mem_of_getElem? (i := 8) rfl)
theorem wm_15_9 : Cond.methodLink RX2 78 yX2_settled ∈ wsL_law := wsr_15 _ (List.mem_of_getElem? (i := 9) rfl)
theorem wm_15_10 : Cond.instanceMethod yX2_settled ∈ wsL_law := wsr_15 _ (List.mem_of_getElem? (i := 10) rfl)
theorem wm_15_11 : Cond.selects RX2 yX2_settled yX2_settled ∈ wsL_law := wsr_15 _ (List.mem_of_getElem? (i := 11) rfl)
theorem wm_15_12 : Cond.code yX2_settled cX2_settled 4 (some .int) ∈ wsL_law := wsr_15 _ (List.mem_of_getElem? (i := 12) rfl)
theorem wm_15_13 : Cond.methodLink RX2 91 Lib.Math.min.name ∈ wsL_law := wsr_15 _ (List.mem_of_getElem? (i := 13) rfl)
theorem wm_15_14 : Cond.methodLink RX2 81 yX2_forgedFor ∈ wsL_law := wsr_15 _ (List.mem_of_getElem? (i := 14) rfl)
theorem wm_15_15 : Cond.instanceMethod yX2_forgedFor ∈ wsL_law := wsr_15 _ (List.mem_of_getElem? (i := 15) rfl)
theorem wm_15_16 : Cond.selects RX2 yX2_forgedFor yX2_forgedFor ∈ wsL_law := wsr_15 _ (List.mem_of_getElem? (i := 16) rfl)
theorem wm_15_17 : Cond.code yX2_forgedFor cX2_forgedFor 3 (some .int) ∈ wsL_law := wsr_15 _ (List.mem_of_getElem? (i := 17) rfl)
theorem wm_15_18 : Cond.methodLink RX2 84 yX2_monthEnded ∈ wsL_law := wsr_15 _ (List.mem_of_getElem? (i := 18) rfl)
theorem wm_15_19 : Cond.instanceMethod yX2_monthEnded ∈ wsL_law := wsr_15 _ (List.mem_of_getElem? (i := 19) rfl)
theorem wm_15_20 : Cond.selects RX2 yX2_monthEnded yX2_monthEnded ∈ wsL_law := wsr_15 _ (List.mem_of_getElem? (i := 20) rfl)
theorem wm_15_21 : Cond.code yX2_monthEnded cX2_monthEnded 1 (some .int) ∈ wsL_law := wsr_15 _ (List.mem_of_getElem? (i := 21) rfl)
theorem wm_15_22 : Cond.methodLink RX5 57 yX5_endMonth ∈ wsL_law := wsr_15 _ (List.mem_of_getElem? (i := 22) rfl)
theorem wm_15_23 : Cond.instanceMethod yX5_endMonth ∈ wsL_law := wsr_15 _ (List.mem_of_getElem? (i := 23) rfl)
theorem wm_16_0 : Cond.selects RX5 yX5_endMonth yX5_endMonth ∈ wsL_law := wsr_16 _ (List.mem_of_getElem? (i := 0) rfl)
theorem wm_16_1 : Cond.code yX5_endMonth cX5_endMonth 2 none ∈ wsL_law := wsr_16 _ (List.mem_of_getElem? (i := 1) rfl)
theorem wm_16_2 : Cond.methodLink RX5 64 yX2_rate ∈ wsL_law := wsr_16 _ (List.mem_of_getElem? (i := 2) rfl)
theorem wm_16_3 : Cond.methodLink RL 48 yX8_judge ∈ wsL_law := wsr_16 _ (List.mem_of_getElem? (i := 3) rfl)
theorem wm_16_4 : Cond.instanceMethod yX8_judge ∈ wsL_law := wsr_16 _ (List.mem_of_getElem? (i := 4) rfl)
theorem wm_16_5 : Cond.selects RX8 yX8_judge yX8_judge ∈ wsL_law := wsr_16 _ (List.mem_of_getElem? (i := 5) rfl)
theorem wm_16_6 : Cond.code yX8_judge cX8_judge 3 (some .int) ∈ wsL_law := wsr_16 _ (List.mem_of_getElem? (i := 6) rfl)
theorem wm_16_7 : Cond.constantLong RX8 221 (2) ∈ wsL_law := wsr_16 _ (List.mem_of_getElem? (i := 7) rfl)
theorem wm_16_8 : Cond.fieldLink RX8 196 "AbbeyNotesModel" "badAct" "I" ∈ wsL_law := wsr_16 _ (List.mem_of_getElem? (i := 8) rfl)
theorem wm_16_9 : Cond.fieldLink RX8 199 "AbbeyNotesModel" "badWhy" "I" ∈ wsL_law := wsr_16 _ (List.mem_of_getElem? (i := 9) rfl)
theorem wm_16_10 : Cond.fieldLink RX8 202 "AbbeyNotesModel" "endedMany" "I" ∈ wsL_law := wsr_16 _ (List.mem_of_getElem? (i := 10) rfl)
theorem wm_16_11 : Cond.methodLink RX8 223 yX8_refusal ∈ wsL_law := wsr_16 _ (List.mem_of_getElem? (i := 11) rfl)
theorem wm_16_12 : Cond.instanceMethod yX8_refusal ∈ wsL_law := wsr_16 _ (List.mem_of_getElem? (i := 12) rfl)
theorem wm_16_13 : Cond.selects RX8 yX8_refusal yX8_refusal ∈ wsL_law := wsr_16 _ (List.mem_of_getElem? (i := 13) rfl)
theorem wm_16_14 : Cond.code yX8_refusal cX8_refusal 1 (some .int) ∈ wsL_law := wsr_16 _ (List.mem_of_getElem? (i := 14) rfl)
theorem wm_16_15 : Cond.methodLink RX8 212 yX8_keepNow ∈ wsL_law := wsr_16 _ (List.mem_of_getElem? (i := 15) rfl)
theorem wm_16_16 : Cond.instanceMethod yX8_keepNow ∈ wsL_law := wsr_16 _ (List.mem_of_getElem? (i := 16) rfl)
theorem wm_16_17 : Cond.selects RX8 yX8_keepNow yX8_keepNow ∈ wsL_law := wsr_16 _ (List.mem_of_getElem? (i := 17) rfl)
theorem wm_16_18 : Cond.code yX8_keepNow cX8_keepNow 2 none ∈ wsL_law := wsr_16 _ (List.mem_of_getElem? (i := 18) rfl)
theorem wm_16_19 : Cond.fieldLink RX8 183 "AbbeyNotesModel" "burnt" "I" ∈ wsL_law := wsr_16 _ (List.mem_of_getElem? (i := 19) rfl)
theorem wm_16_20 : Cond.fieldLink RX8 180 "AbbeyNotesModel" "months" "I" ∈ wsL_law := wsr_16 _ (List.mem_of_getElem? (i := 20) rfl)
theorem wm_16_21 : Cond.methodLink RX8 215 yX8_fault ∈ wsL_law := wsr_16 _ (List.mem_of_getElem? (i := 21) rfl)
theorem wm_16_22 : Cond.methodLink RX8 218 yX8_goMonths ∈ wsL_law := wsr_16 _ (List.mem_of_getElem? (i := 22) rfl)
theorem wm_16_23 : Cond.instanceMethod yX8_goMonths ∈ wsL_law := wsr_16 _ (List.mem_of_getElem? (i := 23) rfl)
theorem wm_17_0 : Cond.selects RX8 yX8_goMonths yX8_goMonths ∈ wsL_law := wsr_17 _ (List.mem_of_getElem? (i := 0) rfl)
theorem wm_17_1 : Cond.code yX8_goMonths cX8_goMonths 3 none ∈ wsL_law := wsr_17 _ (List.mem_of_getElem? (i := 1) rfl)
theorem wm_17_2 : Cond.methodLink RX8 205 yX8_whyNot ∈ wsL_law := wsr_17 _ (List.mem_of_getElem? (i := 2) rfl)
theorem wm_17_3 : Cond.instanceMethod yX8_whyNot ∈ wsL_law := wsr_17 _ (List.mem_of_getElem? (i := 3) rfl)
theorem wm_17_4 : Cond.selects RX8 yX8_whyNot yX8_whyNot ∈ wsL_law := wsr_17 _ (List.mem_of_getElem? (i := 4) rfl)
theorem wm_17_5 : Cond.code yX8_whyNot cX8_whyNot 4 (some .int) ∈ wsL_law := wsr_17 _ (List.mem_of_getElem? (i := 5) rfl)
theorem wm_17_6 : Cond.constant RX8 170 (99999) ∈ wsL_law := wsr_17 _ (List.mem_of_getElem? (i := 6) rfl)
theorem wm_17_7 : Cond.methodLink RX8 174 yX8_whyNotChange ∈ wsL_law := wsr_17 _ (List.mem_of_getElem? (i := 7) rfl)
theorem wm_17_8 : Cond.instanceMethod yX8_whyNotChange ∈ wsL_law := wsr_17 _ (List.mem_of_getElem? (i := 8) rfl)
theorem wm_17_9 : Cond.selects RX8 yX8_whyNotChange yX8_whyNotChange ∈ wsL_law := wsr_17 _ (List.mem_of_getElem? (i := 9) rfl)
theorem wm_17_10 : Cond.code yX8_whyNotChange cX8_whyNotChange 3 (some .int) ∈ wsL_law := wsr_17 _ (List.mem_of_getElem? (i := 10) rfl)
theorem wm_17_11 : Cond.methodLink RX8 167 yX8_worth ∈ wsL_law := wsr_17 _ (List.mem_of_getElem? (i := 11) rfl)
theorem wm_17_12 : Cond.instanceMethod yX8_worth ∈ wsL_law := wsr_17 _ (List.mem_of_getElem? (i := 12) rfl)
theorem wm_17_13 : Cond.selects RX8 yX8_worth yX8_worth ∈ wsL_law := wsr_17 _ (List.mem_of_getElem? (i := 13) rfl)
theorem wm_17_14 : Cond.code yX8_worth cX8_worth 2 (some .int) ∈ wsL_law := wsr_17 _ (List.mem_of_getElem? (i := 14) rfl)
theorem wm_17_15 : Cond.methodLink RX8 164 yX8_rate ∈ wsL_law := wsr_17 _ (List.mem_of_getElem? (i := 15) rfl)
theorem wm_17_16 : Cond.instanceMethod yX8_rate ∈ wsL_law := wsr_17 _ (List.mem_of_getElem? (i := 16) rfl)
theorem wm_17_17 : Cond.selects RX8 yX8_rate yX8_rate ∈ wsL_law := wsr_17 _ (List.mem_of_getElem? (i := 17) rfl)
theorem wm_17_18 : Cond.code yX8_rate cX8_rate 1 (some .int) ∈ wsL_law := wsr_17 _ (List.mem_of_getElem? (i := 18) rfl)
theorem wm_17_19 : Cond.methodLink RX8 153 yX8_land ∈ wsL_law := wsr_17 _ (List.mem_of_getElem? (i := 19) rfl)
theorem wm_17_20 : Cond.instanceMethod yX8_land ∈ wsL_law := wsr_17 _ (List.mem_of_getElem? (i := 20) rfl)
theorem wm_17_21 : Cond.selects RX8 yX8_land yX8_land ∈ wsL_law := wsr_17 _ (List.mem_of_getElem? (i := 21) rfl)
theorem wm_17_22 : Cond.code yX8_land cX8_land 3 (some .int) ∈ wsL_law := wsr_17 _ (List.mem_of_getElem? (i := 22) rfl)
theorem wm_17_23 : Cond.methodLink RX8 157 yX8_notes ∈ wsL_law := wsr_17 _ (List.mem_of_getElem? (i := 23) rfl)
theorem wm_18_0 : Cond.instanceMethod yX8_notes ∈ wsL_law := wsr_18 _ (List.mem_of_getElem? (i := 0) rfl)
theorem wm_18_1 : Cond.selects RX8 yX8_notes yX8_notes ∈ wsL_law := wsr_18 _ (List.mem_of_getElem? (i := 1) rfl)
theorem wm_18_2 : Cond.code yX8_notes cX8_notes 3 (some .int) ∈ wsL_law := wsr_18 _ (List.mem_of_getElem? (i := 2) rfl)
theorem wm_18_3 : Cond.methodLink RX8 160 yX8_rateOf ∈ wsL_law := wsr_18 _ (List.mem_of_getElem? (i := 3) rfl)
theorem wm_18_4 : Cond.static yX8_rateOf ∈ wsL_law := wsr_18 _ (List.mem_of_getElem? (i := 4) rfl)
theorem wm_18_5 : Cond.code yX8_rateOf cX8_rateOf 5 (some .int) ∈ wsL_law := wsr_18 _ (List.mem_of_getElem? (i := 5) rfl)
theorem wm_18_6 : Cond.constantLong RX8 151 (100) ∈ wsL_law := wsr_18 _ (List.mem_of_getElem? (i := 6) rfl)
theorem wm_18_7 : Cond.methodLink RX8 177 yX8_whyNotPay ∈ wsL_law := wsr_18 _ (List.mem_of_getElem? (i := 7) rfl)
theorem wm_18_8 : Cond.instanceMethod yX8_whyNotPay ∈ wsL_law := wsr_18 _ (List.mem_of_getElem? (i := 8) rfl)
theorem wm_18_9 : Cond.selects RX8 yX8_whyNotPay yX8_whyNotPay ∈ wsL_law := wsr_18 _ (List.mem_of_getElem? (i := 9) rfl)
theorem wm_18_10 : Cond.code yX8_whyNotPay cX8_whyNotPay 4 (some .int) ∈ wsL_law := wsr_18 _ (List.mem_of_getElem? (i := 10) rfl)
theorem wm_18_11 : Cond.methodLink RX8 171 yX8_payment ∈ wsL_law := wsr_18 _ (List.mem_of_getElem? (i := 11) rfl)
theorem wm_18_12 : Cond.instanceMethod yX8_payment ∈ wsL_law := wsr_18 _ (List.mem_of_getElem? (i := 12) rfl)
theorem wm_18_13 : Cond.selects RX8 yX8_payment yX8_payment ∈ wsL_law := wsr_18 _ (List.mem_of_getElem? (i := 13) rfl)
theorem wm_18_14 : Cond.code yX8_payment cX8_payment 4 (some .int) ∈ wsL_law := wsr_18 _ (List.mem_of_getElem? (i := 14) rfl)
theorem wm_18_15 : Cond.methodLink RX8 208 yX8_happen ∈ wsL_law := wsr_18 _ (List.mem_of_getElem? (i := 15) rfl)
theorem wm_18_16 : Cond.instanceMethod yX8_happen ∈ wsL_law := wsr_18 _ (List.mem_of_getElem? (i := 16) rfl)
theorem wm_18_17 : Cond.selects RX8 yX8_happen yX8_happen ∈ wsL_law := wsr_18 _ (List.mem_of_getElem? (i := 17) rfl)
theorem wm_18_18 : Cond.code yX8_happen cX8_happen 4 none ∈ wsL_law := wsr_18 _ (List.mem_of_getElem? (i := 18) rfl)
theorem wm_18_19 : Cond.methodLink RX8 186 yX8_buy ∈ wsL_law := wsr_18 _ (List.mem_of_getElem? (i := 19) rfl)
theorem wm_18_20 : Cond.instanceMethod yX8_buy ∈ wsL_law := wsr_18 _ (List.mem_of_getElem? (i := 20) rfl)
theorem wm_18_21 : Cond.selects RX8 yX8_buy yX8_buy ∈ wsL_law := wsr_18 _ (List.mem_of_getElem? (i := 21) rfl)
theorem wm_18_22 : Cond.code yX8_buy cX8_buy 3 none ∈ wsL_law := wsr_18 _ (List.mem_of_getElem? (i := 22) rfl)
theorem wm_18_23 : Cond.methodLink RX8 190 yX8_swap ∈ wsL_law := wsr_18 _ (List.mem_of_getElem? (i := 23) rfl)
theorem wm_19_0 : Cond.instanceMethod yX8_swap ∈ wsL_law := wsr_19 _ (List.mem_of_getElem? (i := 0) rfl)
theorem wm_19_1 : Cond.selects RX8 yX8_swap yX8_swap ∈ wsL_law := wsr_19 _ (List.mem_of_getElem? (i := 1) rfl)
theorem wm_19_2 : Cond.code yX8_swap cX8_swap 3 none ∈ wsL_law := wsr_19 _ (List.mem_of_getElem? (i := 2) rfl)
theorem wm_19_3 : Cond.methodLink RX8 193 yX8_pay ∈ wsL_law := wsr_19 _ (List.mem_of_getElem? (i := 3) rfl)
theorem wm_19_4 : Cond.instanceMethod yX8_pay ∈ wsL_law := wsr_19 _ (List.mem_of_getElem? (i := 4) rfl)
theorem wm_19_5 : Cond.selects RX8 yX8_pay yX8_pay ∈ wsL_law := wsr_19 _ (List.mem_of_getElem? (i := 5) rfl)
theorem wm_19_6 : Cond.code yX8_pay cX8_pay 4 none ∈ wsL_law := wsr_19 _ (List.mem_of_getElem? (i := 6) rfl)
theorem wm_19_7 : Cond.methodLink RX8 226 yX8_back ∈ wsL_law := wsr_19 _ (List.mem_of_getElem? (i := 7) rfl)
theorem wm_19_8 : Cond.instanceMethod yX8_back ∈ wsL_law := wsr_19 _ (List.mem_of_getElem? (i := 8) rfl)
theorem wm_19_9 : Cond.selects RX8 yX8_back yX8_back ∈ wsL_law := wsr_19 _ (List.mem_of_getElem? (i := 9) rfl)
theorem wm_19_10 : Cond.code yX8_back cX8_back 3 (some .int) ∈ wsL_law := wsr_19 _ (List.mem_of_getElem? (i := 10) rfl)
theorem wm_19_11 : Cond.methodLink RL 49 yX7_behind ∈ wsL_law := wsr_19 _ (List.mem_of_getElem? (i := 11) rfl)
theorem wm_19_12 : Cond.instanceMethod yX7_behind ∈ wsL_law := wsr_19 _ (List.mem_of_getElem? (i := 12) rfl)
theorem wm_19_13 : Cond.selects RX7 yX7_behind yX7_behind ∈ wsL_law := wsr_19 _ (List.mem_of_getElem? (i := 13) rfl)
theorem wm_19_14 : Cond.code yX7_behind cX7_behind 4 (some .int) ∈ wsL_law := wsr_19 _ (List.mem_of_getElem? (i := 14) rfl)
theorem wm_19_15 : Cond.fieldLink RX7 115 "AbbeyNotes$Trial" "realm" "LAbbeyNotes$Realm;" ∈ wsL_law := wsr_19 _ (List.mem_of_getElem? (i := 15) rfl)
theorem wm_19_16 : Cond.methodLink RX7 118 yX2_ofOne ∈ wsL_law := wsr_19 _ (List.mem_of_getElem? (i := 16) rfl)
theorem wm_19_17 : Cond.instanceMethod yX2_ofOne ∈ wsL_law := wsr_19 _ (List.mem_of_getElem? (i := 17) rfl)
theorem wm_19_18 : Cond.selects RX2 yX2_ofOne yX2_ofOne ∈ wsL_law := wsr_19 _ (List.mem_of_getElem? (i := 18) rfl)
theorem wm_19_19 : Cond.code yX2_ofOne cX2_ofOne 3 (some .int) ∈ wsL_law := wsr_19 _ (List.mem_of_getElem? (i := 19) rfl)
theorem wm_19_20 : Cond.methodLink RX2 59 yX2_lotsOf ∈ wsL_law := wsr_19 _ (List.mem_of_getElem? (i := 20) rfl)
theorem wm_19_21 : Cond.instanceMethod yX2_lotsOf ∈ wsL_law := wsr_19 _ (List.mem_of_getElem? (i := 21) rfl)
theorem wm_19_22 : Cond.selects RX2 yX2_lotsOf yX2_lotsOf ∈ wsL_law := wsr_19 _ (List.mem_of_getElem? (i := 22) rfl)
theorem wm_19_23 : Cond.code yX2_lotsOf cX2_lotsOf 4 (some .int) ∈ wsL_law := wsr_19 _ (List.mem_of_getElem? (i := 23) rfl)
theorem wm_20_0 : Cond.methodLink RX2 63 yX2_owesInAll ∈ wsL_law := wsr_20 _ (List.mem_of_getElem? (i := 0) rfl)
theorem wm_20_1 : Cond.instanceMethod yX2_owesInAll ∈ wsL_law := wsr_20 _ (List.mem_of_getElem? (i := 1) rfl)
theorem wm_20_2 : Cond.selects RX2 yX2_owesInAll yX2_owesInAll ∈ wsL_law := wsr_20 _ (List.mem_of_getElem? (i := 2) rfl)
theorem wm_20_3 : Cond.code yX2_owesInAll cX2_owesInAll 4 (some .int) ∈ wsL_law := wsr_20 _ (List.mem_of_getElem? (i := 3) rfl)
theorem wm_20_4 : Cond.methodLink RL 52 yX8_behind ∈ wsL_law := wsr_20 _ (List.mem_of_getElem? (i := 4) rfl)
theorem wm_20_5 : Cond.instanceMethod yX8_behind ∈ wsL_law := wsr_20 _ (List.mem_of_getElem? (i := 5) rfl)
theorem wm_20_6 : Cond.selects RX8 yX8_behind yX8_behind ∈ wsL_law := wsr_20 _ (List.mem_of_getElem? (i := 6) rfl)
theorem wm_20_7 : Cond.code yX8_behind cX8_behind 4 (some .int) ∈ wsL_law := wsr_20 _ (List.mem_of_getElem? (i := 7) rfl)
theorem wm_20_8 : Cond.constantLong RX8 235 (3) ∈ wsL_law := wsr_20 _ (List.mem_of_getElem? (i := 8) rfl)
theorem wm_20_9 : Cond.methodLink RX8 237 yX8_ofOne ∈ wsL_law := wsr_20 _ (List.mem_of_getElem? (i := 9) rfl)
theorem wm_20_10 : Cond.instanceMethod yX8_ofOne ∈ wsL_law := wsr_20 _ (List.mem_of_getElem? (i := 10) rfl)
theorem wm_20_11 : Cond.selects RX8 yX8_ofOne yX8_ofOne ∈ wsL_law := wsr_20 _ (List.mem_of_getElem? (i := 11) rfl)
theorem wm_20_12 : Cond.code yX8_ofOne cX8_ofOne 3 (some .int) ∈ wsL_law := wsr_20 _ (List.mem_of_getElem? (i := 12) rfl)
theorem wm_20_13 : Cond.methodLink RX8 229 yX8_lotsOf ∈ wsL_law := wsr_20 _ (List.mem_of_getElem? (i := 13) rfl)
theorem wm_20_14 : Cond.instanceMethod yX8_lotsOf ∈ wsL_law := wsr_20 _ (List.mem_of_getElem? (i := 14) rfl)
theorem wm_20_15 : Cond.selects RX8 yX8_lotsOf yX8_lotsOf ∈ wsL_law := wsr_20 _ (List.mem_of_getElem? (i := 15) rfl)
theorem wm_20_16 : Cond.code yX8_lotsOf cX8_lotsOf 4 (some .int) ∈ wsL_law := wsr_20 _ (List.mem_of_getElem? (i := 16) rfl)
theorem wm_20_17 : Cond.methodLink RX8 232 yX8_owesInAll ∈ wsL_law := wsr_20 _ (List.mem_of_getElem? (i := 17) rfl)
theorem wm_20_18 : Cond.instanceMethod yX8_owesInAll ∈ wsL_law := wsr_20 _ (List.mem_of_getElem? (i := 18) rfl)
theorem wm_20_19 : Cond.selects RX8 yX8_owesInAll yX8_owesInAll ∈ wsL_law := wsr_20 _ (List.mem_of_getElem? (i := 19) rfl)
theorem wm_20_20 : Cond.code yX8_owesInAll cX8_owesInAll 4 (some .int) ∈ wsL_law := wsr_20 _ (List.mem_of_getElem? (i := 20) rfl)
theorem wm_20_21 : Cond.methodLink RL 53 yX7_total ∈ wsL_law := wsr_20 _ (List.mem_of_getElem? (i := 21) rfl)
theorem wm_20_22 : Cond.instanceMethod yX7_total ∈ wsL_law := wsr_20 _ (List.mem_of_getElem? (i := 22) rfl)
theorem wm_20_23 : Cond.selects RX7 yX7_total yX7_total ∈ wsL_law := wsr_20 _ (List.mem_of_getElem? (i := 23) rfl)
theorem wm_21_0 : Cond.code yX7_total cX7_total 3 (some .int) ∈ wsL_law := wsr_21 _ (List.mem_of_getElem? (i := 0) rfl)
theorem wm_21_1 : Cond.fieldLink RX7 131 "AbbeyNotes$Realm" "burnt" "I" ∈ wsL_law := wsr_21 _ (List.mem_of_getElem? (i := 1) rfl)
theorem wm_21_2 : Cond.fieldLink RX7 134 "AbbeyNotes$Realm" "months" "I" ∈ wsL_law := wsr_21 _ (List.mem_of_getElem? (i := 2) rfl)
theorem wm_21_3 : Cond.methodLink RX7 122 yX2_notes ∈ wsL_law := wsr_21 _ (List.mem_of_getElem? (i := 3) rfl)
theorem wm_21_4 : Cond.methodLink RX7 125 yX2_land ∈ wsL_law := wsr_21 _ (List.mem_of_getElem? (i := 4) rfl)
theorem wm_21_5 : Cond.methodLink RX7 128 yX2_rate ∈ wsL_law := wsr_21 _ (List.mem_of_getElem? (i := 5) rfl)
theorem wm_21_6 : Cond.methodLink RL 56 yX8_total ∈ wsL_law := wsr_21 _ (List.mem_of_getElem? (i := 6) rfl)
theorem wm_21_7 : Cond.instanceMethod yX8_total ∈ wsL_law := wsr_21 _ (List.mem_of_getElem? (i := 7) rfl)
theorem wm_21_8 : Cond.selects RX8 yX8_total yX8_total ∈ wsL_law := wsr_21 _ (List.mem_of_getElem? (i := 8) rfl)
theorem wm_21_9 : Cond.code yX8_total cX8_total 3 (some .int) ∈ wsL_law := wsr_21 _ (List.mem_of_getElem? (i := 9) rfl)
theorem wm_21_10 : Cond.methodLink RX8 240 yX8_ofAll ∈ wsL_law := wsr_21 _ (List.mem_of_getElem? (i := 10) rfl)
theorem wm_21_11 : Cond.instanceMethod yX8_ofAll ∈ wsL_law := wsr_21 _ (List.mem_of_getElem? (i := 11) rfl)
theorem wm_21_12 : Cond.selects RX8 yX8_ofAll yX8_ofAll ∈ wsL_law := wsr_21 _ (List.mem_of_getElem? (i := 12) rfl)
theorem wm_21_13 : Cond.code yX8_ofAll cX8_ofAll 2 (some .int) ∈ wsL_law := wsr_21 _ (List.mem_of_getElem? (i := 13) rfl)
theorem wm_21_14 : Cond.methodLink RL 57 yX7_fell ∈ wsL_law := wsr_21 _ (List.mem_of_getElem? (i := 14) rfl)
theorem wm_21_15 : Cond.instanceMethod yX7_fell ∈ wsL_law := wsr_21 _ (List.mem_of_getElem? (i := 15) rfl)
theorem wm_21_16 : Cond.selects RX7 yX7_fell yX7_fell ∈ wsL_law := wsr_21 _ (List.mem_of_getElem? (i := 16) rfl)
theorem wm_21_17 : Cond.code yX7_fell cX7_fell 3 (some .int) ∈ wsL_law := wsr_21 _ (List.mem_of_getElem? (i := 17) rfl)
theorem wm_21_18 : Cond.fieldLink RX7 137 "AbbeyNotes$Trial" "fellIn" "I" ∈ wsL_law := wsr_21 _ (List.mem_of_getElem? (i := 18) rfl)
theorem wm_21_19 : Cond.methodLink RL 60 yX8_fell ∈ wsL_law := wsr_21 _ (List.mem_of_getElem? (i := 19) rfl)
theorem wm_21_20 : Cond.instanceMethod yX8_fell ∈ wsL_law := wsr_21 _ (List.mem_of_getElem? (i := 20) rfl)
theorem wm_21_21 : Cond.selects RX8 yX8_fell yX8_fell ∈ wsL_law := wsr_21 _ (List.mem_of_getElem? (i := 21) rfl)
theorem wm_21_22 : Cond.code yX8_fell cX8_fell 4 (some .int) ∈ wsL_law := wsr_21 _ (List.mem_of_getElem? (i := 22) rfl)
theorem wm_21_23 : Cond.methodLink RL 61 yX7_done ∈ wsL_law := wsr_21 _ (List.mem_of_getElem? (i := 23) rfl)
theorem wm_22_0 : Cond.instanceMethod yX7_done ∈ wsL_law := wsr_22 _ (List.mem_of_getElem? (i := 0) rfl)
theorem wm_22_1 : Cond.selects RX7 yX7_done yX7_done ∈ wsL_law := wsr_22 _ (List.mem_of_getElem? (i := 1) rfl)
theorem wm_22_2 : Cond.code yX7_done cX7_done 2 (some .int) ∈ wsL_law := wsr_22 _ (List.mem_of_getElem? (i := 2) rfl)
theorem wm_22_3 : Cond.methodLink RX7 140 yX2_copyFrom ∈ wsL_law := wsr_22 _ (List.mem_of_getElem? (i := 3) rfl)
theorem wm_22_4 : Cond.methodLink RL 64 yX8_done ∈ wsL_law := wsr_22 _ (List.mem_of_getElem? (i := 4) rfl)
theorem wm_22_5 : Cond.instanceMethod yX8_done ∈ wsL_law := wsr_22 _ (List.mem_of_getElem? (i := 5) rfl)
theorem wm_22_6 : Cond.selects RX8 yX8_done yX8_done ∈ wsL_law := wsr_22 _ (List.mem_of_getElem? (i := 6) rfl)
theorem wm_22_7 : Cond.code yX8_done cX8_done 2 (some .int) ∈ wsL_law := wsr_22 _ (List.mem_of_getElem? (i := 7) rfl)
theorem wm_22_8 : Cond.methodLink RL 65 yX7_struck ∈ wsL_law := wsr_22 _ (List.mem_of_getElem? (i := 8) rfl)
theorem wm_22_9 : Cond.instanceMethod yX7_struck ∈ wsL_law := wsr_22 _ (List.mem_of_getElem? (i := 9) rfl)
theorem wm_22_10 : Cond.selects RX7 yX7_struck yX7_struck ∈ wsL_law := wsr_22 _ (List.mem_of_getElem? (i := 10) rfl)
theorem wm_22_11 : Cond.code yX7_struck cX7_struck 2 (some .int) ∈ wsL_law := wsr_22 _ (List.mem_of_getElem? (i := 11) rfl)
theorem wm_22_12 : Cond.methodLink RX7 144 yX3_weigh ∈ wsL_law := wsr_22 _ (List.mem_of_getElem? (i := 12) rfl)
theorem wm_22_13 : Cond.instanceMethod yX3_weigh ∈ wsL_law := wsr_22 _ (List.mem_of_getElem? (i := 13) rfl)
theorem wm_22_14 : Cond.selects RX3 yX3_weigh yX3_weigh ∈ wsL_law := wsr_22 _ (List.mem_of_getElem? (i := 14) rfl)
theorem wm_22_15 : Cond.code yX3_weigh cX3_weigh 4 none ∈ wsL_law := wsr_22 _ (List.mem_of_getElem? (i := 15) rfl)
theorem wm_22_16 : Cond.fieldLink RX3 24 "AbbeyNotes$Realm" "owes" "[[I" ∈ wsL_law := wsr_22 _ (List.mem_of_getElem? (i := 16) rfl)
theorem wm_22_17 : Cond.methodLink RX3 18 yX2_owesInAll ∈ wsL_law := wsr_22 _ (List.mem_of_getElem? (i := 17) rfl)
theorem wm_22_18 : Cond.methodLink RX7 147 yX3_fewestPayments ∈ wsL_law := wsr_22 _ (List.mem_of_getElem? (i := 18) rfl)
theorem wm_22_19 : Cond.instanceMethod yX3_fewestPayments ∈ wsL_law := wsr_22 _ (List.mem_of_getElem? (i := 19) rfl)
theorem wm_22_20 : Cond.selects RX3 yX3_fewestPayments yX3_fewestPayments ∈ wsL_law := wsr_22 _ (List.mem_of_getElem? (i := 20) rfl)
theorem wm_22_21 : Cond.code yX3_fewestPayments cX3_fewestPayments 5 (some .int) ∈ wsL_law := wsr_22 _ (List.mem_of_getElem? (i := 21) rfl)
theorem wm_22_22 : Cond.methodLink RX3 28 Lib.Math.max.name ∈ wsL_law := wsr_22 _ (List.mem_of_getElem? (i := 22) rfl)
theorem wm_22_23 : Cond.static Lib.Math.max.name ∈ wsL_law := wsr_22 _ (List.mem_of_getElem? (i := 23) rfl)
theorem wm_23_0 : Cond.code Lib.Math.max.name Lib.Math.max.code 2 (some .int) ∈ wsL_law := wsr_23 _ (List.mem_of_getElem? (i := 0) rfl)
theorem wm_23_1 : Cond.methodLink RX3 34 yX3_dueTo ∈ wsL_law := wsr_23 _ (List.mem_of_getElem? (i := 1) rfl)
theorem wm_23_2 : Cond.instanceMethod yX3_dueTo ∈ wsL_law := wsr_23 _ (List.mem_of_getElem? (i := 2) rfl)
theorem wm_23_3 : Cond.selects RX3 yX3_dueTo yX3_dueTo ∈ wsL_law := wsr_23 _ (List.mem_of_getElem? (i := 3) rfl)
theorem wm_23_4 : Cond.code yX3_dueTo cX3_dueTo 4 (some .int) ∈ wsL_law := wsr_23 _ (List.mem_of_getElem? (i := 4) rfl)
theorem wm_23_5 : Cond.methodLink RX7 150 yX3_leastPaid ∈ wsL_law := wsr_23 _ (List.mem_of_getElem? (i := 5) rfl)
theorem wm_23_6 : Cond.instanceMethod yX3_leastPaid ∈ wsL_law := wsr_23 _ (List.mem_of_getElem? (i := 6) rfl)
theorem wm_23_7 : Cond.selects RX3 yX3_leastPaid yX3_leastPaid ∈ wsL_law := wsr_23 _ (List.mem_of_getElem? (i := 7) rfl)
theorem wm_23_8 : Cond.code yX3_leastPaid cX3_leastPaid 3 (some .int) ∈ wsL_law := wsr_23 _ (List.mem_of_getElem? (i := 8) rfl)
theorem wm_23_9 : Cond.methodLink RL 68 yX8_struck ∈ wsL_law := wsr_23 _ (List.mem_of_getElem? (i := 9) rfl)
theorem wm_23_10 : Cond.instanceMethod yX8_struck ∈ wsL_law := wsr_23 _ (List.mem_of_getElem? (i := 10) rfl)
theorem wm_23_11 : Cond.selects RX8 yX8_struck yX8_struck ∈ wsL_law := wsr_23 _ (List.mem_of_getElem? (i := 11) rfl)
theorem wm_23_12 : Cond.code yX8_struck cX8_struck 5 (some .int) ∈ wsL_law := wsr_23 _ (List.mem_of_getElem? (i := 12) rfl)
theorem wm_23_13 : Cond.methodLink RX8 246 yX8_mostEven ∈ wsL_law := wsr_23 _ (List.mem_of_getElem? (i := 13) rfl)
theorem wm_23_14 : Cond.instanceMethod yX8_mostEven ∈ wsL_law := wsr_23 _ (List.mem_of_getElem? (i := 14) rfl)
theorem wm_23_15 : Cond.selects RX8 yX8_mostEven yX8_mostEven ∈ wsL_law := wsr_23 _ (List.mem_of_getElem? (i := 15) rfl)
theorem wm_23_16 : Cond.code yX8_mostEven cX8_mostEven 6 (some .int) ∈ wsL_law := wsr_23 _ (List.mem_of_getElem? (i := 16) rfl)
theorem wm_23_17 : Cond.methodLink RX8 243 yX8_netOf ∈ wsL_law := wsr_23 _ (List.mem_of_getElem? (i := 17) rfl)
theorem wm_23_18 : Cond.instanceMethod yX8_netOf ∈ wsL_law := wsr_23 _ (List.mem_of_getElem? (i := 18) rfl)
theorem wm_23_19 : Cond.selects RX8 yX8_netOf yX8_netOf ∈ wsL_law := wsr_23 _ (List.mem_of_getElem? (i := 19) rfl)
theorem wm_23_20 : Cond.code yX8_netOf cX8_netOf 4 (some .int) ∈ wsL_law := wsr_23 _ (List.mem_of_getElem? (i := 20) rfl)
theorem wm_23_21 : Cond.methodLink RL 69 yX7_prints ∈ wsL_law := wsr_23 _ (List.mem_of_getElem? (i := 21) rfl)
theorem wm_23_22 : Cond.instanceMethod yX7_prints ∈ wsL_law := wsr_23 _ (List.mem_of_getElem? (i := 22) rfl)
theorem wm_23_23 : Cond.selects RX7 yX7_prints yX7_prints ∈ wsL_law := wsr_23 _ (List.mem_of_getElem? (i := 23) rfl)
theorem wm_24_0 : Cond.code yX7_prints cX7_prints 4 (some .int) ∈ wsL_law := wsr_24 _ (List.mem_of_getElem? (i := 0) rfl)
theorem wm_24_1 : Cond.methodLink RL 72 yX8_prints ∈ wsL_law := wsr_24 _ (List.mem_of_getElem? (i := 1) rfl)
theorem wm_24_2 : Cond.instanceMethod yX8_prints ∈ wsL_law := wsr_24 _ (List.mem_of_getElem? (i := 2) rfl)
theorem wm_24_3 : Cond.selects RX8 yX8_prints yX8_prints ∈ wsL_law := wsr_24 _ (List.mem_of_getElem? (i := 3) rfl)
theorem wm_24_4 : Cond.code yX8_prints cX8_prints 4 (some .int) ∈ wsL_law := wsr_24 _ (List.mem_of_getElem? (i := 4) rfl)
theorem wm_24_5 : Cond.methodLink RL 73 yX7_buys ∈ wsL_law := wsr_24 _ (List.mem_of_getElem? (i := 5) rfl)
theorem wm_24_6 : Cond.instanceMethod yX7_buys ∈ wsL_law := wsr_24 _ (List.mem_of_getElem? (i := 6) rfl)
theorem wm_24_7 : Cond.selects RX7 yX7_buys yX7_buys ∈ wsL_law := wsr_24 _ (List.mem_of_getElem? (i := 7) rfl)
theorem wm_24_8 : Cond.code yX7_buys cX7_buys 8 (some .int) ∈ wsL_law := wsr_24 _ (List.mem_of_getElem? (i := 8) rfl)
theorem wm_24_9 : Cond.methodLink RX7 162 yX2_lotsOf ∈ wsL_law := wsr_24 _ (List.mem_of_getElem? (i := 9) rfl)
theorem wm_24_10 : Cond.methodLink RX7 165 yX2_priceOf ∈ wsL_law := wsr_24 _ (List.mem_of_getElem? (i := 10) rfl)
theorem wm_24_11 : Cond.instanceMethod yX2_priceOf ∈ wsL_law := wsr_24 _ (List.mem_of_getElem? (i := 11) rfl)
theorem wm_24_12 : Cond.selects RX2 yX2_priceOf yX2_priceOf ∈ wsL_law := wsr_24 _ (List.mem_of_getElem? (i := 12) rfl)
theorem wm_24_13 : Cond.code yX2_priceOf cX2_priceOf 4 (some .int) ∈ wsL_law := wsr_24 _ (List.mem_of_getElem? (i := 13) rfl)
theorem wm_24_14 : Cond.methodLink RL 76 yX8_buys ∈ wsL_law := wsr_24 _ (List.mem_of_getElem? (i := 14) rfl)
theorem wm_24_15 : Cond.instanceMethod yX8_buys ∈ wsL_law := wsr_24 _ (List.mem_of_getElem? (i := 15) rfl)
theorem wm_24_16 : Cond.selects RX8 yX8_buys yX8_buys ∈ wsL_law := wsr_24 _ (List.mem_of_getElem? (i := 16) rfl)
theorem wm_24_17 : Cond.code yX8_buys cX8_buys 7 (some .int) ∈ wsL_law := wsr_24 _ (List.mem_of_getElem? (i := 17) rfl)
theorem wm_24_18 : Cond.methodLink RX8 249 yX8_pricesOf ∈ wsL_law := wsr_24 _ (List.mem_of_getElem? (i := 18) rfl)
theorem wm_24_19 : Cond.instanceMethod yX8_pricesOf ∈ wsL_law := wsr_24 _ (List.mem_of_getElem? (i := 19) rfl)
theorem wm_24_20 : Cond.selects RX8 yX8_pricesOf yX8_pricesOf ∈ wsL_law := wsr_24 _ (List.mem_of_getElem? (i := 20) rfl)
theorem wm_24_21 : Cond.code yX8_pricesOf cX8_pricesOf 4 (some .int) ∈ wsL_law := wsr_24 _ (List.mem_of_getElem? (i := 21) rfl)
theorem wm_24_22 : Cond.methodLink RL 77 yX7_runs ∈ wsL_law := wsr_24 _ (List.mem_of_getElem? (i := 22) rfl)
theorem wm_24_23 : Cond.instanceMethod yX7_runs ∈ wsL_law := wsr_24 _ (List.mem_of_getElem? (i := 23) rfl)
theorem wm_25_0 : Cond.selects RX7 yX7_runs yX7_runs ∈ wsL_law := wsr_25 _ (List.mem_of_getElem? (i := 0) rfl)
theorem wm_25_1 : Cond.code yX7_runs cX7_runs 8 (some .int) ∈ wsL_law := wsr_25 _ (List.mem_of_getElem? (i := 1) rfl)
theorem wm_25_2 : Cond.methodLink RX7 168 yX7_rateOf ∈ wsL_law := wsr_25 _ (List.mem_of_getElem? (i := 2) rfl)
theorem wm_25_3 : Cond.methodLink RL 80 yX8_runs ∈ wsL_law := wsr_25 _ (List.mem_of_getElem? (i := 3) rfl)
theorem wm_25_4 : Cond.instanceMethod yX8_runs ∈ wsL_law := wsr_25 _ (List.mem_of_getElem? (i := 4) rfl)
theorem wm_25_5 : Cond.selects RX8 yX8_runs yX8_runs ∈ wsL_law := wsr_25 _ (List.mem_of_getElem? (i := 5) rfl)
theorem wm_25_6 : Cond.code yX8_runs cX8_runs 8 (some .int) ∈ wsL_law := wsr_25 _ (List.mem_of_getElem? (i := 6) rfl)
theorem wm_25_7 : Cond.constantLong RX8 252 (99) ∈ wsL_law := wsr_25 _ (List.mem_of_getElem? (i := 7) rfl)
theorem wm_25_8 : Cond.methodLink RL 81 yX7_wages ∈ wsL_law := wsr_25 _ (List.mem_of_getElem? (i := 8) rfl)
theorem wm_25_9 : Cond.instanceMethod yX7_wages ∈ wsL_law := wsr_25 _ (List.mem_of_getElem? (i := 9) rfl)
theorem wm_25_10 : Cond.selects RX7 yX7_wages yX7_wages ∈ wsL_law := wsr_25 _ (List.mem_of_getElem? (i := 10) rfl)
theorem wm_25_11 : Cond.code yX7_wages cX7_wages 8 (some .int) ∈ wsL_law := wsr_25 _ (List.mem_of_getElem? (i := 11) rfl)
theorem wm_25_12 : Cond.constant RX7 171 (999999999) ∈ wsL_law := wsr_25 _ (List.mem_of_getElem? (i := 12) rfl)
theorem wm_25_13 : Cond.methodLink RX7 172 Lib.Math.max.name ∈ wsL_law := wsr_25 _ (List.mem_of_getElem? (i := 13) rfl)
theorem wm_25_14 : Cond.methodLink RL 84 yX8_wages ∈ wsL_law := wsr_25 _ (List.mem_of_getElem? (i := 14) rfl)
theorem wm_25_15 : Cond.instanceMethod yX8_wages ∈ wsL_law := wsr_25 _ (List.mem_of_getElem? (i := 15) rfl)
theorem wm_25_16 : Cond.selects RX8 yX8_wages yX8_wages ∈ wsL_law := wsr_25 _ (List.mem_of_getElem? (i := 16) rfl)
theorem wm_25_17 : Cond.code yX8_wages cX8_wages 7 (some .int) ∈ wsL_law := wsr_25 _ (List.mem_of_getElem? (i := 17) rfl)
theorem wm_25_18 : Cond.constantLong RX8 254 (999999999) ∈ wsL_law := wsr_25 _ (List.mem_of_getElem? (i := 18) rfl)
theorem wm_25_19 : Cond.constantLong RX8 256 (8) ∈ wsL_law := wsr_25 _ (List.mem_of_getElem? (i := 19) rfl)
theorem wm_25_20 : Cond.methodLink RL 85 yX7_change ∈ wsL_law := wsr_25 _ (List.mem_of_getElem? (i := 20) rfl)
theorem wm_25_21 : Cond.instanceMethod yX7_change ∈ wsL_law := wsr_25 _ (List.mem_of_getElem? (i := 21) rfl)
theorem wm_25_22 : Cond.selects RX7 yX7_change yX7_change ∈ wsL_law := wsr_25 _ (List.mem_of_getElem? (i := 22) rfl)
theorem wm_25_23 : Cond.code yX7_change cX7_change 10 (some .long) ∈ wsL_law := wsr_25 _ (List.mem_of_getElem? (i := 23) rfl)
theorem wm_26_0 : Cond.constantLong RX7 175 (-1000000000000000002) ∈ wsL_law := wsr_26 _ (List.mem_of_getElem? (i := 0) rfl)
theorem wm_26_1 : Cond.constantLong RX7 177 (10) ∈ wsL_law := wsr_26 _ (List.mem_of_getElem? (i := 1) rfl)
theorem wm_26_2 : Cond.methodLink RX7 179 yX6_scaledMean ∈ wsL_law := wsr_26 _ (List.mem_of_getElem? (i := 2) rfl)
theorem wm_26_3 : Cond.instanceMethod yX6_scaledMean ∈ wsL_law := wsr_26 _ (List.mem_of_getElem? (i := 3) rfl)
theorem wm_26_4 : Cond.selects RX6 yX6_scaledMean yX6_scaledMean ∈ wsL_law := wsr_26 _ (List.mem_of_getElem? (i := 4) rfl)
theorem wm_26_5 : Cond.code yX6_scaledMean cX6_scaledMean 12 (some .long) ∈ wsL_law := wsr_26 _ (List.mem_of_getElem? (i := 5) rfl)
theorem wm_26_6 : Cond.constantLong RX6 16 (10) ∈ wsL_law := wsr_26 _ (List.mem_of_getElem? (i := 6) rfl)
theorem wm_26_7 : Cond.methodLink RX6 18 Lib.Math.max.name ∈ wsL_law := wsr_26 _ (List.mem_of_getElem? (i := 7) rfl)
theorem wm_26_8 : Cond.methodLink RX6 24 Lib.MathLoose.max_long.x ∈ wsL_law := wsr_26 _ (List.mem_of_getElem? (i := 8) rfl)
theorem wm_26_9 : Cond.static Lib.MathLoose.max_long.x ∈ wsL_law := wsr_26 _ (List.mem_of_getElem? (i := 9) rfl)
theorem wm_26_10 : Cond.code Lib.MathLoose.max_long.x Lib.MathLoose.max_long.code 4 (some .long) ∈ wsL_law := wsr_26 _ (List.mem_of_getElem? (i := 10) rfl)
theorem wm_26_11 : Cond.methodLink RX7 183 yX7_lowest ∈ wsL_law := wsr_26 _ (List.mem_of_getElem? (i := 11) rfl)
theorem wm_26_12 : Cond.static yX7_lowest ∈ wsL_law := wsr_26 _ (List.mem_of_getElem? (i := 12) rfl)
theorem wm_26_13 : Cond.code yX7_lowest cX7_lowest 12 (some .long) ∈ wsL_law := wsr_26 _ (List.mem_of_getElem? (i := 13) rfl)
theorem wm_26_14 : Cond.methodLink RL 89 yX8_change ∈ wsL_law := wsr_26 _ (List.mem_of_getElem? (i := 14) rfl)
theorem wm_26_15 : Cond.instanceMethod yX8_change ∈ wsL_law := wsr_26 _ (List.mem_of_getElem? (i := 15) rfl)
theorem wm_26_16 : Cond.selects RX8 yX8_change yX8_change ∈ wsL_law := wsr_26 _ (List.mem_of_getElem? (i := 16) rfl)
theorem wm_26_17 : Cond.code yX8_change cX8_change 13 (some .long) ∈ wsL_law := wsr_26 _ (List.mem_of_getElem? (i := 17) rfl)
theorem wm_26_18 : Cond.constantLong RX8 258 (60) ∈ wsL_law := wsr_26 _ (List.mem_of_getElem? (i := 18) rfl)
theorem wm_26_19 : Cond.constantLong RX8 260 (10) ∈ wsL_law := wsr_26 _ (List.mem_of_getElem? (i := 19) rfl)
theorem wm_26_20 : Cond.constantLong RX8 262 (-1000000000000000002) ∈ wsL_law := wsr_26 _ (List.mem_of_getElem? (i := 20) rfl)
theorem wm_26_21 : Cond.methodLink RX8 264 yX8_lowest ∈ wsL_law := wsr_26 _ (List.mem_of_getElem? (i := 21) rfl)
theorem wm_26_22 : Cond.static yX8_lowest ∈ wsL_law := wsr_26 _ (List.mem_of_getElem? (i := 22) rfl)
theorem wm_26_23 : Cond.code yX8_lowest cX8_lowest 11 (some .long) ∈ wsL_law := wsr_26 _ (List.mem_of_getElem? (i := 23) rfl)
theorem wm_27_0 : Cond.methodLink RL 90 yX7_sample ∈ wsL_law := wsr_27 _ (List.mem_of_getElem? (i := 0) rfl)
theorem wm_27_1 : Cond.instanceMethod yX7_sample ∈ wsL_law := wsr_27 _ (List.mem_of_getElem? (i := 1) rfl)
theorem wm_27_2 : Cond.selects RX7 yX7_sample yX7_sample ∈ wsL_law := wsr_27 _ (List.mem_of_getElem? (i := 2) rfl)
theorem wm_27_3 : Cond.code yX7_sample cX7_sample 6 (some .long) ∈ wsL_law := wsr_27 _ (List.mem_of_getElem? (i := 3) rfl)
theorem wm_27_4 : Cond.methodLink RX7 187 yX7_choices ∈ wsL_law := wsr_27 _ (List.mem_of_getElem? (i := 4) rfl)
theorem wm_27_5 : Cond.static yX7_choices ∈ wsL_law := wsr_27 _ (List.mem_of_getElem? (i := 5) rfl)
theorem wm_27_6 : Cond.code yX7_choices cX7_choices 5 (some .long) ∈ wsL_law := wsr_27 _ (List.mem_of_getElem? (i := 6) rfl)
theorem wm_27_7 : Cond.methodLink RL 93 yX8_sample ∈ wsL_law := wsr_27 _ (List.mem_of_getElem? (i := 7) rfl)
theorem wm_27_8 : Cond.instanceMethod yX8_sample ∈ wsL_law := wsr_27 _ (List.mem_of_getElem? (i := 8) rfl)
theorem wm_27_9 : Cond.selects RX8 yX8_sample yX8_sample ∈ wsL_law := wsr_27 _ (List.mem_of_getElem? (i := 9) rfl)
theorem wm_27_10 : Cond.code yX8_sample cX8_sample 6 (some .long) ∈ wsL_law := wsr_27 _ (List.mem_of_getElem? (i := 10) rfl)
theorem wm_27_11 : Cond.constantLong RX8 268 (30) ∈ wsL_law := wsr_27 _ (List.mem_of_getElem? (i := 11) rfl)
theorem wm_27_12 : Cond.methodLink RX8 270 yX8_chooseOf ∈ wsL_law := wsr_27 _ (List.mem_of_getElem? (i := 12) rfl)
theorem wm_27_13 : Cond.instanceMethod yX8_chooseOf ∈ wsL_law := wsr_27 _ (List.mem_of_getElem? (i := 13) rfl)
theorem wm_27_14 : Cond.selects RX8 yX8_chooseOf yX8_chooseOf ∈ wsL_law := wsr_27 _ (List.mem_of_getElem? (i := 14) rfl)
theorem wm_27_15 : Cond.code yX8_chooseOf cX8_chooseOf 5 (some .long) ∈ wsL_law := wsr_27 _ (List.mem_of_getElem? (i := 15) rfl)
theorem wm_27_16 : Cond.methodLink RL 94 yX7_seen ∈ wsL_law := wsr_27 _ (List.mem_of_getElem? (i := 16) rfl)
theorem wm_27_17 : Cond.instanceMethod yX7_seen ∈ wsL_law := wsr_27 _ (List.mem_of_getElem? (i := 17) rfl)
theorem wm_27_18 : Cond.selects RX7 yX7_seen yX7_seen ∈ wsL_law := wsr_27 _ (List.mem_of_getElem? (i := 18) rfl)
theorem wm_27_19 : Cond.code yX7_seen cX7_seen 4 (some .int) ∈ wsL_law := wsr_27 _ (List.mem_of_getElem? (i := 19) rfl)
theorem wm_27_20 : Cond.fieldLink RX7 191 "AbbeyNotes$Sights" "size" "I" ∈ wsL_law := wsr_27 _ (List.mem_of_getElem? (i := 20) rfl)
theorem wm_27_21 : Cond.methodLink RX7 192 yX4_add ∈ wsL_law := wsr_27 _ (List.mem_of_getElem? (i := 21) rfl)
theorem wm_27_22 : Cond.instanceMethod yX4_add ∈ wsL_law := wsr_27 _ (List.mem_of_getElem? (i := 22) rfl)
theorem wm_27_23 : Cond.selects RX4 yX4_add yX4_add ∈ wsL_law := wsr_27 _ (List.mem_of_getElem? (i := 23) rfl)
theorem wm_28_0 : Cond.code yX4_add cX4_add 4 none ∈ wsL_law := wsr_28 _ (List.mem_of_getElem? (i := 0) rfl)
theorem wm_28_1 : Cond.fieldLink RX4 24 "AbbeyNotes$Sights" "size" "I" ∈ wsL_law := wsr_28 _ (List.mem_of_getElem? (i := 1) rfl)
theorem wm_28_2 : Cond.methodLink RL 97 yX8_seen ∈ wsL_law := wsr_28 _ (List.mem_of_getElem? (i := 2) rfl)
theorem wm_28_3 : Cond.instanceMethod yX8_seen ∈ wsL_law := wsr_28 _ (List.mem_of_getElem? (i := 3) rfl)
theorem wm_28_4 : Cond.selects RX8 yX8_seen yX8_seen ∈ wsL_law := wsr_28 _ (List.mem_of_getElem? (i := 4) rfl)
theorem wm_28_5 : Cond.code yX8_seen cX8_seen 4 (some .int) ∈ wsL_law := wsr_28 _ (List.mem_of_getElem? (i := 5) rfl)
theorem wm_28_6 : Cond.constantLong RX8 274 (255) ∈ wsL_law := wsr_28 _ (List.mem_of_getElem? (i := 6) rfl)
theorem wm_28_7 : Cond.fieldLink RX8 276 "AbbeyNotesModel" "sights" "I" ∈ wsL_law := wsr_28 _ (List.mem_of_getElem? (i := 7) rfl)
theorem wm_28_8 : Cond.methodLink RL 98 yX7_forget ∈ wsL_law := wsr_28 _ (List.mem_of_getElem? (i := 8) rfl)
theorem wm_28_9 : Cond.instanceMethod yX7_forget ∈ wsL_law := wsr_28 _ (List.mem_of_getElem? (i := 9) rfl)
theorem wm_28_10 : Cond.selects RX7 yX7_forget yX7_forget ∈ wsL_law := wsr_28 _ (List.mem_of_getElem? (i := 10) rfl)
theorem wm_28_11 : Cond.code yX7_forget cX7_forget 2 (some .int) ∈ wsL_law := wsr_28 _ (List.mem_of_getElem? (i := 11) rfl)
theorem wm_28_12 : Cond.methodLink RL 101 yX8_forget ∈ wsL_law := wsr_28 _ (List.mem_of_getElem? (i := 12) rfl)
theorem wm_28_13 : Cond.instanceMethod yX8_forget ∈ wsL_law := wsr_28 _ (List.mem_of_getElem? (i := 13) rfl)
theorem wm_28_14 : Cond.selects RX8 yX8_forget yX8_forget ∈ wsL_law := wsr_28 _ (List.mem_of_getElem? (i := 14) rfl)
theorem wm_28_15 : Cond.code yX8_forget cX8_forget 2 (some .int) ∈ wsL_law := wsr_28 _ (List.mem_of_getElem? (i := 15) rfl)
theorem wm_28_16 : Cond.methodLink RL 102 yX7_clerks ∈ wsL_law := wsr_28 _ (List.mem_of_getElem? (i := 16) rfl)
theorem wm_28_17 : Cond.instanceMethod yX7_clerks ∈ wsL_law := wsr_28 _ (List.mem_of_getElem? (i := 17) rfl)
theorem wm_28_18 : Cond.selects RX7 yX7_clerks yX7_clerks ∈ wsL_law := wsr_28 _ (List.mem_of_getElem? (i := 18) rfl)
theorem wm_28_19 : Cond.code yX7_clerks cX7_clerks 5 (some .int) ∈ wsL_law := wsr_28 _ (List.mem_of_getElem? (i := 19) rfl)
theorem wm_28_20 : Cond.methodLink RX7 195 yX4_fit ∈ wsL_law := wsr_28 _ (List.mem_of_getElem? (i := 20) rfl)
theorem wm_28_21 : Cond.instanceMethod yX4_fit ∈ wsL_law := wsr_28 _ (List.mem_of_getElem? (i := 21) rfl)
theorem wm_28_22 : Cond.selects RX4 yX4_fit yX4_fit ∈ wsL_law := wsr_28 _ (List.mem_of_getElem? (i := 22) rfl)
theorem wm_28_23 : Cond.code yX4_fit cX4_fit 5 (some .boolean) ∈ wsL_law := wsr_28 _ (List.mem_of_getElem? (i := 23) rfl)
theorem wm_29_0 : Cond.methodLink RX4 34 yJ6_bitCount_0f7a4 ∈ wsL_law := wsr_29 _ (List.mem_of_getElem? (i := 0) rfl)
theorem wm_29_1 : Cond.static yJ6_bitCount_0f7a4 ∈ wsL_law := wsr_29 _ (List.mem_of_getElem? (i := 1) rfl)
theorem wm_29_2 : Cond.initialized RJ6 ∈ wsL_law := wsr_29 _ (List.mem_of_getElem? (i := 2) rfl)
theorem wm_29_3 : Cond.code yJ6_bitCount_0f7a4 cJ6_bitCount_0f7a4 1 (some .int) ∈ wsL_law := wsr_29 _ (List.mem_of_getElem? (i := 3) rfl)
theorem wm_29_4 : Cond.constant RJ6 265 (1431655765) ∈ wsL_law := wsr_29 _ (List.mem_of_getElem? (i := 4) rfl)
theorem wm_29_5 : Cond.constant RJ6 266 (858993459) ∈ wsL_law := wsr_29 _ (List.mem_of_getElem? (i := 5) rfl)
theorem wm_29_6 : Cond.constant RJ6 267 (252645135) ∈ wsL_law := wsr_29 _ (List.mem_of_getElem? (i := 6) rfl)
theorem wm_29_7 : Cond.methodLink RL 105 yX8_clerks ∈ wsL_law := wsr_29 _ (List.mem_of_getElem? (i := 7) rfl)
theorem wm_29_8 : Cond.instanceMethod yX8_clerks ∈ wsL_law := wsr_29 _ (List.mem_of_getElem? (i := 8) rfl)
theorem wm_29_9 : Cond.selects RX8 yX8_clerks yX8_clerks ∈ wsL_law := wsr_29 _ (List.mem_of_getElem? (i := 9) rfl)
theorem wm_29_10 : Cond.code yX8_clerks cX8_clerks 5 (some .int) ∈ wsL_law := wsr_29 _ (List.mem_of_getElem? (i := 10) rfl)
theorem wm_29_11 : Cond.methodLink RX8 282 yX8_fits ∈ wsL_law := wsr_29 _ (List.mem_of_getElem? (i := 11) rfl)
theorem wm_29_12 : Cond.instanceMethod yX8_fits ∈ wsL_law := wsr_29 _ (List.mem_of_getElem? (i := 12) rfl)
theorem wm_29_13 : Cond.selects RX8 yX8_fits yX8_fits ∈ wsL_law := wsr_29 _ (List.mem_of_getElem? (i := 13) rfl)
theorem wm_29_14 : Cond.code yX8_fits cX8_fits 6 (some .boolean) ∈ wsL_law := wsr_29 _ (List.mem_of_getElem? (i := 14) rfl)
theorem wm_29_15 : Cond.methodLink RX8 279 yX8_bitsOf ∈ wsL_law := wsr_29 _ (List.mem_of_getElem? (i := 15) rfl)
theorem wm_29_16 : Cond.static yX8_bitsOf ∈ wsL_law := wsr_29 _ (List.mem_of_getElem? (i := 16) rfl)
theorem wm_29_17 : Cond.code yX8_bitsOf cX8_bitsOf 3 (some .int) ∈ wsL_law := wsr_29 _ (List.mem_of_getElem? (i := 17) rfl)
theorem wm_29_18 : Cond.methodLink RL 106 yX7_count ∈ wsL_law := wsr_29 _ (List.mem_of_getElem? (i := 18) rfl)
theorem wm_29_19 : Cond.instanceMethod yX7_count ∈ wsL_law := wsr_29 _ (List.mem_of_getElem? (i := 19) rfl)
theorem wm_29_20 : Cond.selects RX7 yX7_count yX7_count ∈ wsL_law := wsr_29 _ (List.mem_of_getElem? (i := 20) rfl)
theorem wm_29_21 : Cond.code yX7_count cX7_count 6 (some .int) ∈ wsL_law := wsr_29 _ (List.mem_of_getElem? (i := 21) rfl)
theorem wm_29_22 : Cond.methodLink RX7 199 yX4_tally ∈ wsL_law := wsr_29 _ (List.mem_of_getElem? (i := 22) rfl)
theorem wm_29_23 : Cond.instanceMethod yX4_tally ∈ wsL_law := wsr_29 _ (List.mem_of_getElem? (i := 23) rfl)
theorem wm_30_0 : Cond.selects RX4 yX4_tally yX4_tally ∈ wsL_law := wsr_30 _ (List.mem_of_getElem? (i := 0) rfl)
theorem wm_30_1 : Cond.code yX4_tally cX4_tally 5 (some .int) ∈ wsL_law := wsr_30 _ (List.mem_of_getElem? (i := 1) rfl)
theorem wm_30_2 : Cond.methodLink RX4 40 yX4_fit ∈ wsL_law := wsr_30 _ (List.mem_of_getElem? (i := 2) rfl)
theorem wm_30_3 : Cond.methodLink RX7 202 yX4_mostLeft ∈ wsL_law := wsr_30 _ (List.mem_of_getElem? (i := 3) rfl)
theorem wm_30_4 : Cond.instanceMethod yX4_mostLeft ∈ wsL_law := wsr_30 _ (List.mem_of_getElem? (i := 4) rfl)
theorem wm_30_5 : Cond.selects RX4 yX4_mostLeft yX4_mostLeft ∈ wsL_law := wsr_30 _ (List.mem_of_getElem? (i := 5) rfl)
theorem wm_30_6 : Cond.code yX4_mostLeft cX4_mostLeft 3 (some .int) ∈ wsL_law := wsr_30 _ (List.mem_of_getElem? (i := 6) rfl)
theorem wm_30_7 : Cond.methodLink RX4 44 Lib.Math.max.name ∈ wsL_law := wsr_30 _ (List.mem_of_getElem? (i := 7) rfl)
theorem wm_30_8 : Cond.methodLink RL 109 yX8_count ∈ wsL_law := wsr_30 _ (List.mem_of_getElem? (i := 8) rfl)
theorem wm_30_9 : Cond.instanceMethod yX8_count ∈ wsL_law := wsr_30 _ (List.mem_of_getElem? (i := 9) rfl)
theorem wm_30_10 : Cond.selects RX8 yX8_count yX8_count ∈ wsL_law := wsr_30 _ (List.mem_of_getElem? (i := 10) rfl)
theorem wm_30_11 : Cond.code yX8_count cX8_count 7 (some .int) ∈ wsL_law := wsr_30 _ (List.mem_of_getElem? (i := 11) rfl)
theorem wm_30_12 : Cond.methodLink RX8 286 yX8_mostLeft ∈ wsL_law := wsr_30 _ (List.mem_of_getElem? (i := 12) rfl)
theorem wm_30_13 : Cond.instanceMethod yX8_mostLeft ∈ wsL_law := wsr_30 _ (List.mem_of_getElem? (i := 13) rfl)
theorem wm_30_14 : Cond.selects RX8 yX8_mostLeft yX8_mostLeft ∈ wsL_law := wsr_30 _ (List.mem_of_getElem? (i := 14) rfl)
theorem wm_30_15 : Cond.code yX8_mostLeft cX8_mostLeft 7 (some .int) ∈ wsL_law := wsr_30 _ (List.mem_of_getElem? (i := 15) rfl)
theorem wm_30_16 : Cond.methodLink RL 110 yX7_year ∈ wsL_law := wsr_30 _ (List.mem_of_getElem? (i := 16) rfl)
theorem wm_30_17 : Cond.instanceMethod yX7_year ∈ wsL_law := wsr_30 _ (List.mem_of_getElem? (i := 17) rfl)
theorem wm_30_18 : Cond.selects RX7 yX7_year yX7_year ∈ wsL_law := wsr_30 _ (List.mem_of_getElem? (i := 18) rfl)
theorem wm_30_19 : Cond.code yX7_year cX7_year 8 (some .int) ∈ wsL_law := wsr_30 _ (List.mem_of_getElem? (i := 19) rfl)
theorem wm_30_20 : Cond.constant RX7 205 (65537) ∈ wsL_law := wsr_30 _ (List.mem_of_getElem? (i := 20) rfl)
theorem wm_30_21 : Cond.methodLink RX7 206 yX7_drawnNumber ∈ wsL_law := wsr_30 _ (List.mem_of_getElem? (i := 21) rfl)
theorem wm_30_22 : Cond.static yX7_drawnNumber ∈ wsL_law := wsr_30 _ (List.mem_of_getElem? (i := 22) rfl)
theorem wm_30_23 : Cond.code yX7_drawnNumber cX7_drawnNumber 2 (some .int) ∈ wsL_law := wsr_30 _ (List.mem_of_getElem? (i := 23) rfl)
theorem wm_31_0 : Cond.methodLink RX7 209 yX2_act ∈ wsL_law := wsr_31 _ (List.mem_of_getElem? (i := 0) rfl)
theorem wm_31_1 : Cond.methodLink RX7 213 yJ6_bitCount_0f7a4 ∈ wsL_law := wsr_31 _ (List.mem_of_getElem? (i := 1) rfl)
theorem wm_31_2 : Cond.methodLink RL 113 yX8_year ∈ wsL_law := wsr_31 _ (List.mem_of_getElem? (i := 2) rfl)
theorem wm_31_3 : Cond.instanceMethod yX8_year ∈ wsL_law := wsr_31 _ (List.mem_of_getElem? (i := 3) rfl)
theorem wm_31_4 : Cond.selects RX8 yX8_year yX8_year ∈ wsL_law := wsr_31 _ (List.mem_of_getElem? (i := 4) rfl)
theorem wm_31_5 : Cond.code yX8_year cX8_year 9 (some .int) ∈ wsL_law := wsr_31 _ (List.mem_of_getElem? (i := 5) rfl)
theorem wm_31_6 : Cond.constantLong RX8 289 (75) ∈ wsL_law := wsr_31 _ (List.mem_of_getElem? (i := 6) rfl)
theorem wm_31_7 : Cond.constantLong RX8 291 (74) ∈ wsL_law := wsr_31 _ (List.mem_of_getElem? (i := 7) rfl)
theorem wm_31_8 : Cond.constantLong RX8 293 (65537) ∈ wsL_law := wsr_31 _ (List.mem_of_getElem? (i := 8) rfl)
theorem wm_31_9 : Cond.methodLink RX8 295 yX8_actBy ∈ wsL_law := wsr_31 _ (List.mem_of_getElem? (i := 9) rfl)
theorem wm_31_10 : Cond.static yX8_actBy ∈ wsL_law := wsr_31 _ (List.mem_of_getElem? (i := 10) rfl)
theorem wm_31_11 : Cond.code yX8_actBy cX8_actBy 1 (some .int) ∈ wsL_law := wsr_31 _ (List.mem_of_getElem? (i := 11) rfl)
theorem wm_31_12 : Cond.methodLink RX8 298 yX8_muchBy ∈ wsL_law := wsr_31 _ (List.mem_of_getElem? (i := 12) rfl)
theorem wm_31_13 : Cond.static yX8_muchBy ∈ wsL_law := wsr_31 _ (List.mem_of_getElem? (i := 13) rfl)
theorem wm_31_14 : Cond.code yX8_muchBy cX8_muchBy 2 (some .int) ∈ wsL_law := wsr_31 _ (List.mem_of_getElem? (i := 14) rfl)
theorem wm_31_15 : Cond.methodLink RL 114 yX7_image ∈ wsL_law := wsr_31 _ (List.mem_of_getElem? (i := 15) rfl)
theorem wm_31_16 : Cond.instanceMethod yX7_image ∈ wsL_law := wsr_31 _ (List.mem_of_getElem? (i := 16) rfl)
theorem wm_31_17 : Cond.selects RX7 yX7_image yX7_image ∈ wsL_law := wsr_31 _ (List.mem_of_getElem? (i := 17) rfl)
theorem wm_31_18 : Cond.code yX7_image cX7_image 2 (some .int) ∈ wsL_law := wsr_31 _ (List.mem_of_getElem? (i := 18) rfl)
theorem wm_31_19 : Cond.fieldLink RX7 218 "AbbeyNotes$Image" "realm" "LAbbeyNotes$Realm;" ∈ wsL_law := wsr_31 _ (List.mem_of_getElem? (i := 19) rfl)
theorem wm_31_20 : Cond.fieldLink RX7 219 "AbbeyNotes$Image" "sights" "LAbbeyNotes$Sights;" ∈ wsL_law := wsr_31 _ (List.mem_of_getElem? (i := 20) rfl)
theorem wm_31_21 : Cond.fieldLink RX7 223 "AbbeyNotes$Image" "kept" "Z" ∈ wsL_law := wsr_31 _ (List.mem_of_getElem? (i := 21) rfl)
theorem wm_31_22 : Cond.methodLink RX7 220 yX4_copyFrom ∈ wsL_law := wsr_31 _ (List.mem_of_getElem? (i := 22) rfl)
theorem wm_31_23 : Cond.instanceMethod yX4_copyFrom ∈ wsL_law := wsr_31 _ (List.mem_of_getElem? (i := 23) rfl)
theorem wm_32_0 : Cond.selects RX4 yX4_copyFrom yX4_copyFrom ∈ wsL_law := wsr_32 _ (List.mem_of_getElem? (i := 0) rfl)
theorem wm_32_1 : Cond.code yX4_copyFrom cX4_copyFrom 2 none ∈ wsL_law := wsr_32 _ (List.mem_of_getElem? (i := 1) rfl)
theorem wm_32_2 : Cond.methodLink RX4 28 arraycopyName ∈ wsL_law := wsr_32 _ (List.mem_of_getElem? (i := 2) rfl)
theorem wm_32_3 : Cond.methodLink RL 117 yX8_image ∈ wsL_law := wsr_32 _ (List.mem_of_getElem? (i := 3) rfl)
theorem wm_32_4 : Cond.instanceMethod yX8_image ∈ wsL_law := wsr_32 _ (List.mem_of_getElem? (i := 4) rfl)
theorem wm_32_5 : Cond.selects RX8 yX8_image yX8_image ∈ wsL_law := wsr_32 _ (List.mem_of_getElem? (i := 5) rfl)
theorem wm_32_6 : Cond.code yX8_image cX8_image 2 (some .int) ∈ wsL_law := wsr_32 _ (List.mem_of_getElem? (i := 6) rfl)
theorem wm_32_7 : Cond.fieldLink RX8 305 "AbbeyNotesModel" "keptAt" "I" ∈ wsL_law := wsr_32 _ (List.mem_of_getElem? (i := 7) rfl)
theorem wm_32_8 : Cond.fieldLink RX8 301 "AbbeyNotesModel" "isWriting" "Z" ∈ wsL_law := wsr_32 _ (List.mem_of_getElem? (i := 8) rfl)
theorem wm_32_9 : Cond.methodLink RX8 315 yX8_passAll ∈ wsL_law := wsr_32 _ (List.mem_of_getElem? (i := 9) rfl)
theorem wm_32_10 : Cond.instanceMethod yX8_passAll ∈ wsL_law := wsr_32 _ (List.mem_of_getElem? (i := 10) rfl)
theorem wm_32_11 : Cond.selects RX8 yX8_passAll yX8_passAll ∈ wsL_law := wsr_32 _ (List.mem_of_getElem? (i := 11) rfl)
theorem wm_32_12 : Cond.code yX8_passAll cX8_passAll 1 none ∈ wsL_law := wsr_32 _ (List.mem_of_getElem? (i := 12) rfl)
theorem wm_32_13 : Cond.methodLink RX8 308 yX8_pass ∈ wsL_law := wsr_32 _ (List.mem_of_getElem? (i := 13) rfl)
theorem wm_32_14 : Cond.instanceMethod yX8_pass ∈ wsL_law := wsr_32 _ (List.mem_of_getElem? (i := 14) rfl)
theorem wm_32_15 : Cond.selects RX8 yX8_pass yX8_pass ∈ wsL_law := wsr_32 _ (List.mem_of_getElem? (i := 15) rfl)
theorem wm_32_16 : Cond.code yX8_pass cX8_pass 3 (some .int) ∈ wsL_law := wsr_32 _ (List.mem_of_getElem? (i := 16) rfl)
theorem wm_32_17 : Cond.methodLink RX8 311 yX8_passRow ∈ wsL_law := wsr_32 _ (List.mem_of_getElem? (i := 17) rfl)
theorem wm_32_18 : Cond.instanceMethod yX8_passRow ∈ wsL_law := wsr_32 _ (List.mem_of_getElem? (i := 18) rfl)
theorem wm_32_19 : Cond.selects RX8 yX8_passRow yX8_passRow ∈ wsL_law := wsr_32 _ (List.mem_of_getElem? (i := 19) rfl)
theorem wm_32_20 : Cond.code yX8_passRow cX8_passRow 4 none ∈ wsL_law := wsr_32 _ (List.mem_of_getElem? (i := 20) rfl)
theorem wm_32_21 : Cond.methodLink RL 118 yX7_restore ∈ wsL_law := wsr_32 _ (List.mem_of_getElem? (i := 21) rfl)
theorem wm_32_22 : Cond.instanceMethod yX7_restore ∈ wsL_law := wsr_32 _ (List.mem_of_getElem? (i := 22) rfl)
theorem wm_32_23 : Cond.selects RX7 yX7_restore yX7_restore ∈ wsL_law := wsr_32 _ (List.mem_of_getElem? (i := 23) rfl)
theorem wm_33_0 : Cond.code yX7_restore cX7_restore 2 (some .int) ∈ wsL_law := wsr_33 _ (List.mem_of_getElem? (i := 0) rfl)
theorem wm_33_1 : Cond.methodLink RL 121 yX8_restore ∈ wsL_law := wsr_33 _ (List.mem_of_getElem? (i := 1) rfl)
theorem wm_33_2 : Cond.instanceMethod yX8_restore ∈ wsL_law := wsr_33 _ (List.mem_of_getElem? (i := 2) rfl)
theorem wm_33_3 : Cond.selects RX8 yX8_restore yX8_restore ∈ wsL_law := wsr_33 _ (List.mem_of_getElem? (i := 3) rfl)
theorem wm_33_4 : Cond.code yX8_restore cX8_restore 2 (some .int) ∈ wsL_law := wsr_33 _ (List.mem_of_getElem? (i := 4) rfl)
theorem wm_33_5 : Cond.methodLink RL 122 yX7_told ∈ wsL_law := wsr_33 _ (List.mem_of_getElem? (i := 5) rfl)
theorem wm_33_6 : Cond.instanceMethod yX7_told ∈ wsL_law := wsr_33 _ (List.mem_of_getElem? (i := 6) rfl)
theorem wm_33_7 : Cond.selects RX7 yX7_told yX7_told ∈ wsL_law := wsr_33 _ (List.mem_of_getElem? (i := 7) rfl)
theorem wm_33_8 : Cond.code yX7_told cX7_told 3 (some .int) ∈ wsL_law := wsr_33 _ (List.mem_of_getElem? (i := 8) rfl)
theorem wm_33_9 : Cond.methodLink RX7 227 yX7_toldOfAll ∈ wsL_law := wsr_33 _ (List.mem_of_getElem? (i := 9) rfl)
theorem wm_33_10 : Cond.instanceMethod yX7_toldOfAll ∈ wsL_law := wsr_33 _ (List.mem_of_getElem? (i := 10) rfl)
theorem wm_33_11 : Cond.selects RX7 yX7_toldOfAll yX7_toldOfAll ∈ wsL_law := wsr_33 _ (List.mem_of_getElem? (i := 11) rfl)
theorem wm_33_12 : Cond.code yX7_toldOfAll cX7_toldOfAll 2 (some .int) ∈ wsL_law := wsr_33 _ (List.mem_of_getElem? (i := 12) rfl)
theorem wm_33_13 : Cond.methodLink RX7 230 yX7_toldOfOne ∈ wsL_law := wsr_33 _ (List.mem_of_getElem? (i := 13) rfl)
theorem wm_33_14 : Cond.instanceMethod yX7_toldOfOne ∈ wsL_law := wsr_33 _ (List.mem_of_getElem? (i := 14) rfl)
theorem wm_33_15 : Cond.selects RX7 yX7_toldOfOne yX7_toldOfOne ∈ wsL_law := wsr_33 _ (List.mem_of_getElem? (i := 15) rfl)
theorem wm_33_16 : Cond.code yX7_toldOfOne cX7_toldOfOne 3 (some .int) ∈ wsL_law := wsr_33 _ (List.mem_of_getElem? (i := 16) rfl)
theorem wm_33_17 : Cond.methodLink RX7 233 yX7_toldOfLot ∈ wsL_law := wsr_33 _ (List.mem_of_getElem? (i := 17) rfl)
theorem wm_33_18 : Cond.instanceMethod yX7_toldOfLot ∈ wsL_law := wsr_33 _ (List.mem_of_getElem? (i := 18) rfl)
theorem wm_33_19 : Cond.selects RX7 yX7_toldOfLot yX7_toldOfLot ∈ wsL_law := wsr_33 _ (List.mem_of_getElem? (i := 19) rfl)
theorem wm_33_20 : Cond.code yX7_toldOfLot cX7_toldOfLot 3 (some .int) ∈ wsL_law := wsr_33 _ (List.mem_of_getElem? (i := 20) rfl)
theorem wm_33_21 : Cond.methodLink RX7 236 yX7_toldOfDebt ∈ wsL_law := wsr_33 _ (List.mem_of_getElem? (i := 21) rfl)
theorem wm_33_22 : Cond.instanceMethod yX7_toldOfDebt ∈ wsL_law := wsr_33 _ (List.mem_of_getElem? (i := 22) rfl)
theorem wm_33_23 : Cond.selects RX7 yX7_toldOfDebt yX7_toldOfDebt ∈ wsL_law := wsr_33 _ (List.mem_of_getElem? (i := 23) rfl)
theorem wm_34_0 : Cond.code yX7_toldOfDebt cX7_toldOfDebt 3 (some .int) ∈ wsL_law := wsr_34 _ (List.mem_of_getElem? (i := 0) rfl)
theorem wm_34_1 : Cond.methodLink RL 125 yX8_told ∈ wsL_law := wsr_34 _ (List.mem_of_getElem? (i := 1) rfl)
theorem wm_34_2 : Cond.instanceMethod yX8_told ∈ wsL_law := wsr_34 _ (List.mem_of_getElem? (i := 2) rfl)
theorem wm_34_3 : Cond.selects RX8 yX8_told yX8_told ∈ wsL_law := wsr_34 _ (List.mem_of_getElem? (i := 3) rfl)
theorem wm_34_4 : Cond.code yX8_told cX8_told 3 (some .int) ∈ wsL_law := wsr_34 _ (List.mem_of_getElem? (i := 4) rfl)
theorem wm_34_5 : Cond.constantLong RX8 318 (200) ∈ wsL_law := wsr_34 _ (List.mem_of_getElem? (i := 5) rfl)
theorem wm_34_6 : Cond.constantLong RX8 320 (259) ∈ wsL_law := wsr_34 _ (List.mem_of_getElem? (i := 6) rfl)
theorem wm_34_7 : Cond.constantLong RX8 322 (179) ∈ wsL_law := wsr_34 _ (List.mem_of_getElem? (i := 7) rfl)
theorem wm_34_8 : Cond.constantLong RX8 324 (69) ∈ wsL_law := wsr_34 _ (List.mem_of_getElem? (i := 8) rfl)
theorem wm_34_9 : Cond.methodLink RX8 326 yX8_toldOfOne ∈ wsL_law := wsr_34 _ (List.mem_of_getElem? (i := 9) rfl)
theorem wm_34_10 : Cond.instanceMethod yX8_toldOfOne ∈ wsL_law := wsr_34 _ (List.mem_of_getElem? (i := 10) rfl)
theorem wm_34_11 : Cond.selects RX8 yX8_toldOfOne yX8_toldOfOne ∈ wsL_law := wsr_34 _ (List.mem_of_getElem? (i := 11) rfl)
theorem wm_34_12 : Cond.code yX8_toldOfOne cX8_toldOfOne 3 (some .int) ∈ wsL_law := wsr_34 _ (List.mem_of_getElem? (i := 12) rfl)
theorem wm_34_13 : Cond.methodLink RX8 329 yX8_toldOfAll ∈ wsL_law := wsr_34 _ (List.mem_of_getElem? (i := 13) rfl)
theorem wm_34_14 : Cond.instanceMethod yX8_toldOfAll ∈ wsL_law := wsr_34 _ (List.mem_of_getElem? (i := 14) rfl)
theorem wm_34_15 : Cond.selects RX8 yX8_toldOfAll yX8_toldOfAll ∈ wsL_law := wsr_34 _ (List.mem_of_getElem? (i := 15) rfl)
theorem wm_34_16 : Cond.code yX8_toldOfAll cX8_toldOfAll 2 (some .int) ∈ wsL_law := wsr_34 _ (List.mem_of_getElem? (i := 16) rfl)
end
section
/-! ===== the world of all cells of the class and of its reference, by one list of kinds; memories of ints and of longs ===== -/
abbrev jM : Type := Nat → Nat → Int32
abbrev jL : Type := Nat → Nat → Int64
abbrev jC : Type := (Nat × Nat) ⊕ ((Nat × Nat) ⊕ ((Nat × List Nat) ⊕ (Nat × List (Option Nat))))
abbrev ji (t n : Nat) : jC := .inl (t, n)
abbrev jj (n : Nat) : jC := .inr (.inl (1, n))
abbrev jr (t : Nat) (js : List Nat) : jC := .inr (.inr (.inl (t, js)))
abbrev jo (ci : Nat) (fs : List (Option Nat)) : jC := .inr (.inr (.inr (ci, fs)))
/-- a Realm whose first cell is q -/
abbrev jRealm (q : Nat) : List jC := [jo 2 [some (q + 1), some (q + 2), some (q + 3), some (q + 4), some (q + 5), none, none, none, none], ji 0 6, ji 0 6, jr 3 [q + 6, q + 7, q + 8, q + 9, q + 10, q + 11], ji 0 8, ji 0 8, ji 0 6, ji 0 6, ji 0 6, ji 0 6, ji 0 6, ji 0 6]
/-- Sights whose first cell is q -/
abbrev jSights (q : Nat) : List jC := [jo 4 [some (q + 1), some (q + 2), some (q + 3), some (q + 4), none], ji 0 8, ji 0 8, ji 0 8, ji 0 8]
def jCs : List jC :=
  [jo 7 [some 1, some 13, some 18, some 20, some 33, some 36, some 40]] ++ jRealm 1 ++ jSights 13 ++ [jo 1 [some 19, none], ji 0 60]
  ++ [jo 5 [some 21, none, none, none, none, none, none, none, none]] ++ jRealm 21 ++ [jo 3 [some 34, some 35], ji 0 6, ji 0 64] ++ [jo 6 [some 37], jr 4 [38, 39], jj 69, jj 69]
  ++ [jr 5 [41, 59]] ++ [jo 0 [some 42, some 54, none]] ++ jRealm 42 ++ jSights 54 ++ [jo 0 [some 60, some 72, none]] ++ jRealm 60 ++ jSights 72
  ++ [jo 8 [some 78, some 79, some 80, some 81, some 82, none, none, none, none, some 83, some 84, some 85, none, some 86, none, some 87, some 88, some 89, none, some 90, none, none, none, some 91, some 92, some 93, some 94, some 95, some 96, some 97, some 98, some 99, none, none],
    ji 0 6, ji 0 6, ji 0 36, ji 0 8, ji 0 8, ji 0 8, ji 0 8, ji 0 8, ji 0 60, ji 0 60, ji 0 60, ji 0 60, ji 0 60, ji 0 60, ji 0 6, ji 0 64, ji 0 9, jj 70, jj 70, jj 31, ji 0 200, ji 2 2]
theorem jCs_len : jCs.length = 100 := by decide +kernel
abbrev jf (a : Nat → Nat) (M : jM) (k j : Nat) (f : Option Nat) : Value := match f with
  | some q => .ref (a q)
  | none => .int (M k j)
def jE (a : Nat → Nat) (g : Nat → ClassId) (M : jM) (L : jL) (k : Nat) (sp : jC) : va_E := match sp with
  | .inl (t, n) => .inl (g t, n, .inl (M k))
  | .inr (.inl (t, n)) => .inl (g t, n, .inr (.inl (L k)))
  | .inr (.inr (.inl (t, js))) => .inl (g t, js.length, .inr (.inr (.inr (.inr (fun i => js[i]?.map a)))))
  | .inr (.inr (.inr (ci, fs))) => .inr (ci, fs.mapIdx (fun j f => jf a M k j f))
def jW (a : Nat → Nat) (g : Nat → ClassId) (M : jM) (L : jL) : va_W := jCs.mapIdx (fun k sp => (a k, jE a g M L k sp))
def jU (M : jM) (k i : Nat) (v : Int32) : jM := fun k' i' => if k' = k ∧ i' = i then v else M k' i'
def jUL (L : jL) (k i : Nat) (v : Int64) : jL := fun k' i' => if k' = k ∧ i' = i then v else L k' i'
theorem jU_row {M : jM} {k i : Nat} {v : Int32} : jU M k i v k = upd (M k) i v := by
  funext j
  simp [jU, upd]
theorem jU_ne {M : jM} {k i k' : Nat} {v : Int32} (h : k' ≠ k) : jU M k i v k' = M k' := by
  funext j
  simp [jU, h]
theorem jUL_row {L : jL} {k i : Nat} {v : Int64} : jUL L k i v k = vp_updL (L k) i v := by
  funext j
  simp [jUL, vp_updL]
theorem jUL_ne {L : jL} {k i k' : Nat} {v : Int64} (h : k' ≠ k) : jUL L k i v k' = L k' := by
  funext j
  simp [jUL, h]
theorem jE_congr {a : Nat → Nat} {g : Nat → ClassId} {M M' : jM} {L L' : jL} {k : Nat} (hM : M k = M' k) (hL : L k = L' k) (sp : jC) : jE a g M L k sp = jE a g M' L' k sp := by
  match sp with
  | .inl (t, n) => simp only [jE, hM]
  | .inr (.inl (t, n)) => simp only [jE, hL]
  | .inr (.inr (.inl (t, js))) => rfl
  | .inr (.inr (.inr (ci, fs))) => simp only [jE, jf, hM]
theorem jW_at {a : Nat → Nat} {g : Nat → ClassId} {M : jM} {L : jL} {k : Nat} {sp : jC} (h : jCs[k]? = some sp) : (jW a g M L)[k]? = some (a k, jE a g M L k sp) := by
  simp [jW, List.getElem?_mapIdx, h]
theorem jW_set {a : Nat → Nat} {g : Nat → ClassId} {M M' : jM} {L L' : jL} {k : Nat} {sp : jC} (h : jCs[k]? = some sp) (hM : ∀ k', k' ≠ k → M k' = M' k') (hL : ∀ k', k' ≠ k → L k' = L' k') :
    (jW a g M L).set k (a k, jE a g M' L' k sp) = jW a g M' L' := by
  apply List.ext_getElem?
  intro i
  by_cases e : i = k
  · subst e
    rw [List.getElem?_set_self (by rw [jW, List.length_mapIdx]; exact (List.getElem?_eq_some_iff.mp h).1), jW_at h]
  · rw [List.getElem?_set_ne (Ne.symm e)]
    simp only [jW, List.getElem?_mapIdx]
    cases hi : jCs[i]? with
    | none => rfl
    | some sq => simp only [Option.map_some, jE_congr (hM i e) (hL i e) sq]
def jA (a : Nat → Nat) : Nat → Prop := fun q => ∃ k : Nat, k < 100 ∧ q = a k
def jInj (a : Nat → Nat) : Prop := ∀ i j : Nat, i < 100 → j < 100 → a i = a j → i = j
theorem jW_D {a : Nat → Nat} (h : jInj a) (g : Nat → ClassId) (M : jM) (L : jL) : va_D (jA a) (jW a g M L) := by
  have key : ∀ (k : Nat) (q : Nat × va_E), (jW a g M L)[k]? = some q → k < 100 ∧ q.1 = a k := by
    intro k q hk
    simp only [jW, List.getElem?_mapIdx] at hk
    cases hi : jCs[k]? with
    | none => rw [hi] at hk; cases hk
    | some sp =>
      rw [hi] at hk
      cases hk
      exact ⟨by have := (List.getElem?_eq_some_iff.mp hi).1; rw [jCs_len] at this; exact this, rfl⟩
  refine ⟨fun i j x y hi hj hxy => ?_, fun k q hk => ?_⟩
  · obtain ⟨l1, e1⟩ := key i x hi
    obtain ⟨l2, e2⟩ := key j y hj
    exact h i j l1 l2 (by rw [← e1, ← e2]; exact hxy)
  · obtain ⟨l1, e1⟩ := key k q hk
    exact ⟨k, l1, e1⟩
abbrev jT (g : Nat → ClassId) : List (ClassId × FieldType) := [(g 0, .int), (g 1, .long), (g 2, .boolean), (g 3, .array .int), (g 4, .array .long), (g 5, .object RX0)]
/-- the two links of private static methods that nest mates call -/
def jN (U : State) : Prop := va_Nw (.methodLinkNest RX1 27 yX7_within RX7) U ∧ va_Nw (.methodLinkNest RX2 55 yX7_rateOf RX7) U
theorem jN.same {u U : State} (h : u.vm = U.vm) (hZ : jN u) : jN U := ⟨va_Nw.same rfl h hZ.1, va_Nw.same rfl h hZ.2⟩
theorem jN.warm {s U : State} (hW : s.WarmedH U.vm) (hZ : jN s) : jN U := ⟨va_Nw.warmM hW hZ.1, va_Nw.warmM hW hZ.2⟩
/-! ===== contracts ===== -/
def jP (D : va_G) (a : Nat → Nat) (g : Nat → ClassId) (av : List Value) (M : jM) (L : jL) : Array Value → State → Prop :=
  va_Pc av (fun U => va_P D vwCl (jW a g M L) U.heap ∧ va_K D vwCl (jT g) U ∧ jN U ∧ jInj a)
abbrev jPo : Type := Option Value → jM → jL → Prop
def jQ (D : va_G) (a : Nat → Nat) (g : Nat → ClassId) (post : jPo) : Array Value → State → Outcome → State → Prop :=
  fun _ st oc t => ∃ (rv : Option Value) (M1 : jM) (L1 : jL), oc = .returned rv ∧ post rv M1 L1 ∧ va_P D vwCl (jW a g M1 L1) t.heap ∧ va_F (jA a) st t
/-- from the memories M, L, with the arguments av, the method returns, and post says of its answer and of the memories behind it; it makes nothing, and writes the world's cells alone -/
def jV (l : Launch) (D : va_G) (a : Nat → Nat) (g : Nat → ClassId) (y : MethodName) (C : ByteArray) (n : Nat) (ret : Option FieldType) (fr lo : Nat) (av : List Value) (M : jM) (L : jL) (post : jPo) : Prop :=
  Met l y (.code y C n ret :: wsL_law) ({ frames := fr, cells := 0, slots := 0, locals := lo }) (jP D a g av M L) (jQ D a g post) 0 0 (jA a)
abbrev jEq (rv : Option Value) (M1 : jM) (L1 : jL) : jPo := fun rv' M' L' => rv' = rv ∧ M' = M1 ∧ L' = L1
abbrev jK (l : Launch) (D : va_G) (a : Nat → Nat) (g : Nat → ClassId) (y : MethodName) (C : ByteArray) (n : Nat) (ret : Option FieldType) (fr lo : Nat) (av : List Value) (M : jM) (L : jL) (rv : Option Value) (M1 : jM) (L1 : jL) : Prop :=
  jV l D a g y C n ret fr lo av M L (jEq rv M1 L1)
/-! ===== the judgement ===== -/
abbrev jG : Type := Program × Env × Room × State × MethodId × Array Value × List Frame × Method × Code × Nat × Nat × (State → Prop)
def gp (G : jG) : Program := G.1
def ge (G : jG) : Env := G.2.1
def gR (G : jG) : Room := G.2.2.1
def gs (G : jG) : State := G.2.2.2.1
def gm (G : jG) : MethodId := G.2.2.2.2.1
def gar (G : jG) : Array Value := G.2.2.2.2.2.1
def gb (G : jG) : List Frame := G.2.2.2.2.2.2.1
def gme (G : jG) : Method := G.2.2.2.2.2.2.2.1
def gc (G : jG) : Code := G.2.2.2.2.2.2.2.2.1
def gce (G : jG) : Nat := G.2.2.2.2.2.2.2.2.2.1
def gsl (G : jG) : Nat := G.2.2.2.2.2.2.2.2.2.2.1
def gQ (G : jG) : State → Prop := G.2.2.2.2.2.2.2.2.2.2.2
def J (l : Launch) (D : va_G) (a : Nat → Nat) (g : Nat → ClassId) (G : jG) (nL : Nat) (M : jM) (L : jL) (pc : Nat) (loc : List (Nat × Value)) (st : List Value) : Prop :=
  ∀ (H : Heap) (locs : List Loc) (ls : Array Slot), va_P D vwCl (jW a g M L) H → va_S (jA a) (gs G).heap H locs → lv_has ls nL loc →
    W (gp G) l (ge G) (gR G) (gs G) (gm G) (gar G) (gb G) (gme G) (gc G) H locs (gce G) (gsl G) (gQ G) (F0 (gm G) pc ls st)
def jX (D : va_G) (a : Nat → Nat) (g : Nat → ClassId) (G : jG) (own : String) (cc : ByteArray) (nL fr lo : Nat) : Prop :=
  (gp G).tables.exec = Jvm.exec ∧ (gc G).code = cc ∧ (gc G).maxLocals = nL ∧ (gs G).vm.findClass own = some (gm G).cls ∧ (∀ w ∈ wsL_law, w.before (gar G) (gs G) = true) ∧
  va_K D vwCl (jT g) (gs G) ∧ jN (gs G) ∧ jInj a ∧ (gR G).frames = fr ∧ (gR G).locals = lo ∧ gce G ≤ (gR G).cells ∧ gsl G ≤ (gR G).slots
def jZ (D : va_G) (a : Nat → Nat) (g : Nat → ClassId) (G : jG) (ret : Option FieldType) (post : jPo) : Prop :=
  (gme G).sig.returnType = ret ∧ (gme G).locks = false ∧ gQ G = MQ (gb G) (jQ D a g post) (gar G) (gs G) (gce G) (gsl G) (jA a)
theorem jMeth {l : Launch} {D : va_G} {a : Nat → Nat} {g : Nat → ClassId} {y : MethodName} {C : ByteArray} {n : Nat} {ret : Option FieldType} {fr lo : Nat} {av : List Value} {M : jM} {L : jL} {post : jPo} (hy : plainName y.cls = true) (hlen : (lg_sl av).length ≤ n)
    (body : ∀ G : jG, jX D a g G y.cls C n fr lo → jZ D a g G ret post → J l D a g G n M L 0 (lv_args 0 av) []) : jV l D a g y C n ret fr lo av M L post := by
  refine Met.ofW (cc := C) (maxL := n) (ret := ret) hy rfl ?_
  intro p e s m args below meth c s₁ B hml hv
  obtain ⟨rfl, hP, hK, hN, hI⟩ := hv
  have hts := atoms_spec (ws := Cond.code y C n ret :: wsL_law) B.pre
  have hl := lv_entry av (n := n) hlen
  rw [lg_entry_eq]
  generalize (lg_sl av ++ List.replicate (n - (lg_sl av).length) Slot.unset).toArray = ls at hl ⊢
  exact body (p, e, (headSpec (Cond.code y C n ret :: wsL_law) ({ frames := fr, cells := 0, slots := 0, locals := lo })).room, s, m, av.toArray, below, meth, c, 0, 0, MQ below (jQ D a g post) av.toArray s 0 0 (jA a))
    ⟨B.exec, B.bytes, hml, findClass_of_methodNamed B.named, fun w hw => hts w (List.mem_cons_of_mem _ hw), hK, hN, hI, rfl, rfl, Nat.le_refl _, Nat.le_refl _⟩ ⟨B.returns, B.notSynchronized, rfl⟩ s.heap [] ls hP va_S.rf hl
end
section
section JR
variable {l : Launch} {D : va_G} {a : Nat → Nat} {g : Nat → ClassId} {G : jG} {own : String} {cc : ByteArray} {nL fr lo : Nat} {M : jM} {L : jL} {pc : Nat} {loc loc' : List (Nat × Value)} {rest : List Value}

theorem J_iconst (hX : jX D a g G own cc nL fr lo) {n : Int} {v : Int32} (hd : decode cc pc = .ok (.iconst n, 1)) (hv : Int32.ofInt n = v) (k : J l D a g G nL M L (pc + 1) loc (.int v :: rest)) : J l D a g G nL M L pc loc rest :=
  fun H locs ls hP hS hl => lv_iconst hX.1 hX.2.1 hd hv (k H locs ls hP hS hl)
theorem J_bipush (hX : jX D a g G own cc nL fr lo) {n : Int} {v : Int32} (hd : decode cc pc = .ok (.bipush n, 2)) (hv : (Int8.ofInt n).toInt32 = v) (k : J l D a g G nL M L (pc + 2) loc (.int v :: rest)) : J l D a g G nL M L pc loc rest :=
  fun H locs ls hP hS hl => lv_bipush hX.1 hX.2.1 hd hv (k H locs ls hP hS hl)
theorem J_sipush (hX : jX D a g G own cc nL fr lo) {n : Int} {v : Int32} (hd : decode cc pc = .ok (.sipush n, 3)) (hv : (Int16.ofInt n).toInt32 = v) (k : J l D a g G nL M L (pc + 3) loc (.int v :: rest)) : J l D a g G nL M L pc loc rest :=
  fun H locs ls hP hS hl => lv_sipush hX.1 hX.2.1 hd hv (k H locs ls hP hS hl)
theorem J_lconst (hX : jX D a g G own cc nL fr lo) {n : Fin 2} {v : Int64} (hd : decode cc pc = .ok (.lconst n, 1)) (hv : Int64.ofNat (n : Nat) = v) (k : J l D a g G nL M L (pc + 1) loc (.long v :: rest)) : J l D a g G nL M L pc loc rest :=
  fun H locs ls hP hS hl => lv_lconst hX.1 hX.2.1 hd hv (k H locs ls hP hS hl)
theorem J_iadd (hX : jX D a g G own cc nL fr lo) {x y : Int32} (hd : decode cc pc = .ok (.iadd, 1))  (k : J l D a g G nL M L (pc + 1) loc (.int (x + y) :: rest)) : J l D a g G nL M L pc loc (.int y :: .int x :: rest) :=
  fun H locs ls hP hS hl => lv_iadd hX.1 hX.2.1 hd  (k H locs ls hP hS hl)
theorem J_isub (hX : jX D a g G own cc nL fr lo) {x y : Int32} (hd : decode cc pc = .ok (.isub, 1))  (k : J l D a g G nL M L (pc + 1) loc (.int (x - y) :: rest)) : J l D a g G nL M L pc loc (.int y :: .int x :: rest) :=
  fun H locs ls hP hS hl => lv_isub hX.1 hX.2.1 hd  (k H locs ls hP hS hl)
theorem J_imul (hX : jX D a g G own cc nL fr lo) {x y : Int32} (hd : decode cc pc = .ok (.imul, 1))  (k : J l D a g G nL M L (pc + 1) loc (.int (x * y) :: rest)) : J l D a g G nL M L pc loc (.int y :: .int x :: rest) :=
  fun H locs ls hP hS hl => lv_imul hX.1 hX.2.1 hd  (k H locs ls hP hS hl)
theorem J_iand (hX : jX D a g G own cc nL fr lo) {x y : Int32} (hd : decode cc pc = .ok (.iand, 1))  (k : J l D a g G nL M L (pc + 1) loc (.int (x &&& y) :: rest)) : J l D a g G nL M L pc loc (.int y :: .int x :: rest) :=
  fun H locs ls hP hS hl => lv_iand hX.1 hX.2.1 hd  (k H locs ls hP hS hl)
theorem J_ior (hX : jX D a g G own cc nL fr lo) {x y : Int32} (hd : decode cc pc = .ok (.ior, 1))  (k : J l D a g G nL M L (pc + 1) loc (.int (x ||| y) :: rest)) : J l D a g G nL M L pc loc (.int y :: .int x :: rest) :=
  fun H locs ls hP hS hl => lv_ior hX.1 hX.2.1 hd  (k H locs ls hP hS hl)
theorem J_ixor (hX : jX D a g G own cc nL fr lo) {x y : Int32} (hd : decode cc pc = .ok (.ixor, 1))  (k : J l D a g G nL M L (pc + 1) loc (.int (x ^^^ y) :: rest)) : J l D a g G nL M L pc loc (.int y :: .int x :: rest) :=
  fun H locs ls hP hS hl => lv_ixor hX.1 hX.2.1 hd  (k H locs ls hP hS hl)
theorem J_ishl (hX : jX D a g G own cc nL fr lo) {x y : Int32} (hd : decode cc pc = .ok (.ishl, 1))  (k : J l D a g G nL M L (pc + 1) loc (.int (x <<< (y &&& 31)) :: rest)) : J l D a g G nL M L pc loc (.int y :: .int x :: rest) :=
  fun H locs ls hP hS hl => lv_ishl hX.1 hX.2.1 hd  (k H locs ls hP hS hl)
theorem J_ishr (hX : jX D a g G own cc nL fr lo) {x y : Int32} (hd : decode cc pc = .ok (.ishr, 1))  (k : J l D a g G nL M L (pc + 1) loc (.int (x >>> (y &&& 31)) :: rest)) : J l D a g G nL M L pc loc (.int y :: .int x :: rest) :=
  fun H locs ls hP hS hl => lv_ishr hX.1 hX.2.1 hd  (k H locs ls hP hS hl)
theorem J_ladd (hX : jX D a g G own cc nL fr lo) {x y : Int64} (hd : decode cc pc = .ok (.ladd, 1))  (k : J l D a g G nL M L (pc + 1) loc (.long (x + y) :: rest)) : J l D a g G nL M L pc loc (.long y :: .long x :: rest) :=
  fun H locs ls hP hS hl => lv_ladd hX.1 hX.2.1 hd  (k H locs ls hP hS hl)
theorem J_lsub (hX : jX D a g G own cc nL fr lo) {x y : Int64} (hd : decode cc pc = .ok (.lsub, 1))  (k : J l D a g G nL M L (pc + 1) loc (.long (x - y) :: rest)) : J l D a g G nL M L pc loc (.long y :: .long x :: rest) :=
  fun H locs ls hP hS hl => lv_lsub hX.1 hX.2.1 hd  (k H locs ls hP hS hl)
theorem J_lmul (hX : jX D a g G own cc nL fr lo) {x y : Int64} (hd : decode cc pc = .ok (.lmul, 1))  (k : J l D a g G nL M L (pc + 1) loc (.long (x * y) :: rest)) : J l D a g G nL M L pc loc (.long y :: .long x :: rest) :=
  fun H locs ls hP hS hl => lv_lmul hX.1 hX.2.1 hd  (k H locs ls hP hS hl)
theorem J_ineg (hX : jX D a g G own cc nL fr lo) {x : Int32} (hd : decode cc pc = .ok (.ineg, 1))  (k : J l D a g G nL M L (pc + 1) loc (.int (-x) :: rest)) : J l D a g G nL M L pc loc (.int x :: rest) :=
  fun H locs ls hP hS hl => lv_ineg hX.1 hX.2.1 hd  (k H locs ls hP hS hl)
theorem J_idiv (hX : jX D a g G own cc nL fr lo) {x y : Int32} (hd : decode cc pc = .ok (.idiv, 1)) (hne : ¬ y = 0) (k : J l D a g G nL M L (pc + 1) loc (.int (x / y) :: rest)) : J l D a g G nL M L pc loc (.int y :: .int x :: rest) :=
  fun H locs ls hP hS hl => lv_idiv hX.1 hX.2.1 hd hne (k H locs ls hP hS hl)
theorem J_irem (hX : jX D a g G own cc nL fr lo) {x y : Int32} (hd : decode cc pc = .ok (.irem, 1)) (hne : ¬ y = 0) (k : J l D a g G nL M L (pc + 1) loc (.int (x - x / y * y) :: rest)) : J l D a g G nL M L pc loc (.int y :: .int x :: rest) :=
  fun H locs ls hP hS hl => lv_irem hX.1 hX.2.1 hd hne (k H locs ls hP hS hl)
theorem J_ldiv (hX : jX D a g G own cc nL fr lo) {x y : Int64} (hd : decode cc pc = .ok (.ldiv, 1)) (hne : ¬ y = 0) (k : J l D a g G nL M L (pc + 1) loc (.long (x / y) :: rest)) : J l D a g G nL M L pc loc (.long y :: .long x :: rest) :=
  fun H locs ls hP hS hl => lv_ldiv hX.1 hX.2.1 hd hne (k H locs ls hP hS hl)
theorem J_lrem (hX : jX D a g G own cc nL fr lo) {x y : Int64} (hd : decode cc pc = .ok (.lrem, 1)) (hne : ¬ y = 0) (k : J l D a g G nL M L (pc + 1) loc (.long (x - x / y * y) :: rest)) : J l D a g G nL M L pc loc (.long y :: .long x :: rest) :=
  fun H locs ls hP hS hl => lv_lrem hX.1 hX.2.1 hd hne (k H locs ls hP hS hl)
theorem J_i2l (hX : jX D a g G own cc nL fr lo) {x : Int32} (hd : decode cc pc = .ok (.i2l, 1))  (k : J l D a g G nL M L (pc + 1) loc (.long x.toInt64 :: rest)) : J l D a g G nL M L pc loc (.int x :: rest) :=
  fun H locs ls hP hS hl => lv_i2l hX.1 hX.2.1 hd rfl (k H locs ls hP hS hl)
theorem J_l2i (hX : jX D a g G own cc nL fr lo) {x : Int64} (hd : decode cc pc = .ok (.l2i, 1))  (k : J l D a g G nL M L (pc + 1) loc (.int x.toInt32 :: rest)) : J l D a g G nL M L pc loc (.long x :: rest) :=
  fun H locs ls hP hS hl => lv_l2i hX.1 hX.2.1 hd rfl (k H locs ls hP hS hl)
theorem J_iushr (hX : jX D a g G own cc nL fr lo) {x y : Int32} (hd : decode cc pc = .ok (.iushr, 1))  (k : J l D a g G nL M L (pc + 1) loc (.int (x.toUInt32 >>> (y.toUInt32 &&& Int32.toUInt32 31)).toInt32 :: rest)) : J l D a g G nL M L pc loc (.int y :: .int x :: rest) :=
  fun H locs ls hP hS hl => lv_iushr hX.1 hX.2.1 hd rfl (k H locs ls hP hS hl)
theorem J_lcmp (hX : jX D a g G own cc nL fr lo) {x y : Int64} (hd : decode cc pc = .ok (.lcmp, 1))  (k : J l D a g G nL M L (pc + 1) loc (.int (lg_cmp x y) :: rest)) : J l D a g G nL M L pc loc (.long y :: .long x :: rest) :=
  fun H locs ls hP hS hl => W.lcmp hX.1 hX.2.1 hd  (k H locs ls hP hS hl)
theorem J_dup (hX : jX D a g G own cc nL fr lo) {va : Value} (hd : decode cc pc = .ok (.dup, 1)) (h1 : va.category = 1) (k : J l D a g G nL M L (pc + 1) loc (va :: va :: rest)) : J l D a g G nL M L pc loc (va :: rest) :=
  fun H locs ls hP hS hl => lv_dup hX.1 hX.2.1 hd h1 (k H locs ls hP hS hl)
theorem J_pop (hX : jX D a g G own cc nL fr lo) {va : Value} (hd : decode cc pc = .ok (.pop, 1)) (h1 : va.category = 1) (k : J l D a g G nL M L (pc + 1) loc rest) : J l D a g G nL M L pc loc (va :: rest) :=
  fun H locs ls hP hS hl => lv_pop hX.1 hX.2.1 hd h1 (k H locs ls hP hS hl)
theorem J_dup2 (hX : jX D a g G own cc nL fr lo) {va vb : Value} (hd : decode cc pc = .ok (.dup2, 1)) (h1 : va.category = 1) (h2 : vb.category = 1) (k : J l D a g G nL M L (pc + 1) loc (va :: vb :: va :: vb :: rest)) : J l D a g G nL M L pc loc (va :: vb :: rest) :=
  fun H locs ls hP hS hl => lv_dup2_11 hX.1 hX.2.1 hd h1 h2 (k H locs ls hP hS hl)
theorem J_iload_n (hX : jX D a g G own cc nL fr lo) {k : Fin 4} {x : Int32} (i : Nat) (hd : decode cc pc = .ok (.iload_n k, 1)) (hi : loc[i]? = some ((k : Nat), .int x)) (kk : J l D a g G nL M L (pc + 1) loc (.int x :: rest)) : J l D a g G nL M L pc loc rest :=
  fun H locs ls hP hS hl => lv_iload_n hX.1 hX.2.1 hd rfl (lv_at hl i hi) (kk H locs ls hP hS hl)
theorem J_iload (hX : jX D a g G own cc nL fr lo) {k : Nat} {x : Int32} (i : Nat) (hd : decode cc pc = .ok (.iload k, 2)) (hi : loc[i]? = some (k, .int x)) (kk : J l D a g G nL M L (pc + 2) loc (.int x :: rest)) : J l D a g G nL M L pc loc rest :=
  fun H locs ls hP hS hl => lv_iload hX.1 hX.2.1 hd (lv_at hl i hi) (kk H locs ls hP hS hl)
theorem J_lload_n (hX : jX D a g G own cc nL fr lo) {k : Fin 4} {x : Int64} (i : Nat) (hd : decode cc pc = .ok (.lload_n k, 1)) (hi : loc[i]? = some ((k : Nat), .long x)) (kk : J l D a g G nL M L (pc + 1) loc (.long x :: rest)) : J l D a g G nL M L pc loc rest :=
  fun H locs ls hP hS hl => lv_lload_n hX.1 hX.2.1 hd rfl (lv_at hl i hi) (kk H locs ls hP hS hl)
theorem J_lload (hX : jX D a g G own cc nL fr lo) {k : Nat} {x : Int64} (i : Nat) (hd : decode cc pc = .ok (.lload k, 2)) (hi : loc[i]? = some (k, .long x)) (kk : J l D a g G nL M L (pc + 2) loc (.long x :: rest)) : J l D a g G nL M L pc loc rest :=
  fun H locs ls hP hS hl => lv_lload hX.1 hX.2.1 hd (lv_at hl i hi) (kk H locs ls hP hS hl)
theorem J_aload_n (hX : jX D a g G own cc nL fr lo) {k : Fin 4} {x : Nat} (i : Nat) (hd : decode cc pc = .ok (.aload_n k, 1)) (hi : loc[i]? = some ((k : Nat), .ref x)) (kk : J l D a g G nL M L (pc + 1) loc (.ref x :: rest)) : J l D a g G nL M L pc loc rest :=
  fun H locs ls hP hS hl => lv_aload_n hX.1 hX.2.1 hd rfl (lv_at hl i hi) (kk H locs ls hP hS hl)
theorem J_aload (hX : jX D a g G own cc nL fr lo) {k : Nat} {x : Nat} (i : Nat) (hd : decode cc pc = .ok (.aload k, 2)) (hi : loc[i]? = some (k, .ref x)) (kk : J l D a g G nL M L (pc + 2) loc (.ref x :: rest)) : J l D a g G nL M L pc loc rest :=
  fun H locs ls hP hS hl => lv_aload hX.1 hX.2.1 hd (lv_at hl i hi) (kk H locs ls hP hS hl)
theorem J_istore_n (hX : jX D a g G own cc nL fr lo) {k : Fin 4} {x : Int32} (hd : decode cc pc = .ok (.istore_n k, 1)) (hb : (k : Nat) < nL) (hl : ((k : Nat), Value.int x) :: loc.filter (fun q => !(q.1 == (k : Nat)) && !(q.1 + 1 == (k : Nat) && q.2.category == 2)) = loc') (kk : J l D a g G nL M L (pc + 1) loc' rest) : J l D a g G nL M L pc loc (.int x :: rest) :=
  fun H locs ls hP hS h => lv_istore_n hX.1 hX.2.1 hd rfl h hb hl (fun ls' h' => kk H locs ls' hP hS h')
theorem J_istore (hX : jX D a g G own cc nL fr lo) {k : Nat} {x : Int32} (hd : decode cc pc = .ok (.istore k, 2)) (hb : k < nL) (hl : (k, Value.int x) :: loc.filter (fun q => !(q.1 == k) && !(q.1 + 1 == k && q.2.category == 2)) = loc') (kk : J l D a g G nL M L (pc + 2) loc' rest) : J l D a g G nL M L pc loc (.int x :: rest) :=
  fun H locs ls hP hS h => lv_istore hX.1 hX.2.1 hd h hb hl (fun ls' h' => kk H locs ls' hP hS h')
theorem J_lstore_n (hX : jX D a g G own cc nL fr lo) {k : Fin 4} {x : Int64} (hd : decode cc pc = .ok (.lstore_n k, 1)) (hb : (k : Nat) + 1 < nL) (hl : ((k : Nat), Value.long x) :: loc.filter (fun q => !(q.1 == (k : Nat)) && (!(q.1 == (k : Nat) + 1) && !(q.1 + 1 == (k : Nat) && q.2.category == 2))) = loc') (kk : J l D a g G nL M L (pc + 1) loc' rest) : J l D a g G nL M L pc loc (.long x :: rest) :=
  fun H locs ls hP hS h => lv_lstore_n hX.1 hX.2.1 hd rfl h hb hl (fun ls' h' => kk H locs ls' hP hS h')
theorem J_lstore (hX : jX D a g G own cc nL fr lo) {k : Nat} {x : Int64} (hd : decode cc pc = .ok (.lstore k, 2)) (hb : k + 1 < nL) (hl : (k, Value.long x) :: loc.filter (fun q => !(q.1 == k) && (!(q.1 == k + 1) && !(q.1 + 1 == k && q.2.category == 2))) = loc') (kk : J l D a g G nL M L (pc + 2) loc' rest) : J l D a g G nL M L pc loc (.long x :: rest) :=
  fun H locs ls hP hS h => lv_lstore hX.1 hX.2.1 hd h hb hl (fun ls' h' => kk H locs ls' hP hS h')
theorem J_astore_n (hX : jX D a g G own cc nL fr lo) {k : Fin 4} {x : Nat} (hd : decode cc pc = .ok (.astore_n k, 1)) (hb : (k : Nat) < nL) (hl : ((k : Nat), Value.ref x) :: loc.filter (fun q => !(q.1 == (k : Nat)) && !(q.1 + 1 == (k : Nat) && q.2.category == 2)) = loc') (kk : J l D a g G nL M L (pc + 1) loc' rest) : J l D a g G nL M L pc loc (.ref x :: rest) :=
  fun H locs ls hP hS h => lv_astore_n hX.1 hX.2.1 hd rfl h hb hl (fun ls' h' => kk H locs ls' hP hS h')
theorem J_astore (hX : jX D a g G own cc nL fr lo) {k : Nat} {x : Nat} (hd : decode cc pc = .ok (.astore k, 2)) (hb : k < nL) (hl : (k, Value.ref x) :: loc.filter (fun q => !(q.1 == k) && !(q.1 + 1 == k && q.2.category == 2)) = loc') (kk : J l D a g G nL M L (pc + 2) loc' rest) : J l D a g G nL M L pc loc (.ref x :: rest) :=
  fun H locs ls hP hS h => lv_astore hX.1 hX.2.1 hd h hb hl (fun ls' h' => kk H locs ls' hP hS h')
theorem J_iinc (hX : jX D a g G own cc nL fr lo) {k : Nat} {n : Int} {x v : Int32} (i : Nat) (hd : decode cc pc = .ok (.iinc k n, 3)) (hi : loc[i]? = some (k, .int x)) (hv : x + Int32.ofInt n = v) (hb : k < nL) (hl : (k, Value.int v) :: loc.filter (fun q => !(q.1 == k) && !(q.1 + 1 == k && q.2.category == 2)) = loc') (kk : J l D a g G nL M L (pc + 3) loc' rest) : J l D a g G nL M L pc loc rest :=
  fun H locs ls hP hS h => lv_iinc hX.1 hX.2.1 hd h hi hv hb hl (fun ls' h' => kk H locs ls' hP hS h')
theorem J_if_eq (hX : jX D a g G own cc nL fr lo) {x : Int32} {off : Int} (tgt : Nat) (hd : decode cc pc = .ok (.ifCond .eq off, 3)) (ht : (pc : Int) + off = (tgt : Int)) (kt : x = 0 → J l D a g G nL M L tgt loc rest) (kf : ¬ x = 0 → J l D a g G nL M L (pc + 3) loc rest) : J l D a g G nL M L pc loc (.int x :: rest) :=
  fun H locs ls hP hS hl => lv_if_eq hX.1 hX.2.1 hd ht (fun h => kt h H locs ls hP hS hl) (fun h => kf h H locs ls hP hS hl)
theorem J_icmp_eq (hX : jX D a g G own cc nL fr lo) {x y : Int32} {off : Int} (tgt : Nat) (hd : decode cc pc = .ok (.if_icmp .eq off, 3)) (ht : (pc : Int) + off = (tgt : Int)) (kt : x = y → J l D a g G nL M L tgt loc rest) (kf : ¬ x = y → J l D a g G nL M L (pc + 3) loc rest) : J l D a g G nL M L pc loc (.int y :: .int x :: rest) :=
  fun H locs ls hP hS hl => lv_icmp_eq hX.1 hX.2.1 hd ht (fun h => kt h H locs ls hP hS hl) (fun h => kf h H locs ls hP hS hl)
theorem J_if_ne (hX : jX D a g G own cc nL fr lo) {x : Int32} {off : Int} (tgt : Nat) (hd : decode cc pc = .ok (.ifCond .ne off, 3)) (ht : (pc : Int) + off = (tgt : Int)) (kt : ¬ x = 0 → J l D a g G nL M L tgt loc rest) (kf : x = 0 → J l D a g G nL M L (pc + 3) loc rest) : J l D a g G nL M L pc loc (.int x :: rest) :=
  fun H locs ls hP hS hl => lv_if_ne hX.1 hX.2.1 hd ht (fun h => kt h H locs ls hP hS hl) (fun h => kf h H locs ls hP hS hl)
theorem J_icmp_ne (hX : jX D a g G own cc nL fr lo) {x y : Int32} {off : Int} (tgt : Nat) (hd : decode cc pc = .ok (.if_icmp .ne off, 3)) (ht : (pc : Int) + off = (tgt : Int)) (kt : ¬ x = y → J l D a g G nL M L tgt loc rest) (kf : x = y → J l D a g G nL M L (pc + 3) loc rest) : J l D a g G nL M L pc loc (.int y :: .int x :: rest) :=
  fun H locs ls hP hS hl => lv_icmp_ne hX.1 hX.2.1 hd ht (fun h => kt h H locs ls hP hS hl) (fun h => kf h H locs ls hP hS hl)
theorem J_if_lt (hX : jX D a g G own cc nL fr lo) {x : Int32} {off : Int} (tgt : Nat) (hd : decode cc pc = .ok (.ifCond .lt off, 3)) (ht : (pc : Int) + off = (tgt : Int)) (kt : x < 0 → J l D a g G nL M L tgt loc rest) (kf : ¬ x < 0 → J l D a g G nL M L (pc + 3) loc rest) : J l D a g G nL M L pc loc (.int x :: rest) :=
  fun H locs ls hP hS hl => lv_if_lt hX.1 hX.2.1 hd ht (fun h => kt h H locs ls hP hS hl) (fun h => kf h H locs ls hP hS hl)
theorem J_icmp_lt (hX : jX D a g G own cc nL fr lo) {x y : Int32} {off : Int} (tgt : Nat) (hd : decode cc pc = .ok (.if_icmp .lt off, 3)) (ht : (pc : Int) + off = (tgt : Int)) (kt : x < y → J l D a g G nL M L tgt loc rest) (kf : ¬ x < y → J l D a g G nL M L (pc + 3) loc rest) : J l D a g G nL M L pc loc (.int y :: .int x :: rest) :=
  fun H locs ls hP hS hl => lv_icmp_lt hX.1 hX.2.1 hd ht (fun h => kt h H locs ls hP hS hl) (fun h => kf h H locs ls hP hS hl)
theorem J_if_ge (hX : jX D a g G own cc nL fr lo) {x : Int32} {off : Int} (tgt : Nat) (hd : decode cc pc = .ok (.ifCond .ge off, 3)) (ht : (pc : Int) + off = (tgt : Int)) (kt : 0 ≤ x → J l D a g G nL M L tgt loc rest) (kf : ¬ 0 ≤ x → J l D a g G nL M L (pc + 3) loc rest) : J l D a g G nL M L pc loc (.int x :: rest) :=
  fun H locs ls hP hS hl => lv_if_ge hX.1 hX.2.1 hd ht (fun h => kt h H locs ls hP hS hl) (fun h => kf h H locs ls hP hS hl)
theorem J_icmp_ge (hX : jX D a g G own cc nL fr lo) {x y : Int32} {off : Int} (tgt : Nat) (hd : decode cc pc = .ok (.if_icmp .ge off, 3)) (ht : (pc : Int) + off = (tgt : Int)) (kt : y ≤ x → J l D a g G nL M L tgt loc rest) (kf : ¬ y ≤ x → J l D a g G nL M L (pc + 3) loc rest) : J l D a g G nL M L pc loc (.int y :: .int x :: rest) :=
  fun H locs ls hP hS hl => lv_icmp_ge hX.1 hX.2.1 hd ht (fun h => kt h H locs ls hP hS hl) (fun h => kf h H locs ls hP hS hl)
theorem J_if_gt (hX : jX D a g G own cc nL fr lo) {x : Int32} {off : Int} (tgt : Nat) (hd : decode cc pc = .ok (.ifCond .gt off, 3)) (ht : (pc : Int) + off = (tgt : Int)) (kt : 0 < x → J l D a g G nL M L tgt loc rest) (kf : ¬ 0 < x → J l D a g G nL M L (pc + 3) loc rest) : J l D a g G nL M L pc loc (.int x :: rest) :=
  fun H locs ls hP hS hl => lv_if_gt hX.1 hX.2.1 hd ht (fun h => kt h H locs ls hP hS hl) (fun h => kf h H locs ls hP hS hl)
theorem J_icmp_gt (hX : jX D a g G own cc nL fr lo) {x y : Int32} {off : Int} (tgt : Nat) (hd : decode cc pc = .ok (.if_icmp .gt off, 3)) (ht : (pc : Int) + off = (tgt : Int)) (kt : y < x → J l D a g G nL M L tgt loc rest) (kf : ¬ y < x → J l D a g G nL M L (pc + 3) loc rest) : J l D a g G nL M L pc loc (.int y :: .int x :: rest) :=
  fun H locs ls hP hS hl => lv_icmp_gt hX.1 hX.2.1 hd ht (fun h => kt h H locs ls hP hS hl) (fun h => kf h H locs ls hP hS hl)
theorem J_if_le (hX : jX D a g G own cc nL fr lo) {x : Int32} {off : Int} (tgt : Nat) (hd : decode cc pc = .ok (.ifCond .le off, 3)) (ht : (pc : Int) + off = (tgt : Int)) (kt : x ≤ 0 → J l D a g G nL M L tgt loc rest) (kf : ¬ x ≤ 0 → J l D a g G nL M L (pc + 3) loc rest) : J l D a g G nL M L pc loc (.int x :: rest) :=
  fun H locs ls hP hS hl => lv_if_le hX.1 hX.2.1 hd ht (fun h => kt h H locs ls hP hS hl) (fun h => kf h H locs ls hP hS hl)
theorem J_icmp_le (hX : jX D a g G own cc nL fr lo) {x y : Int32} {off : Int} (tgt : Nat) (hd : decode cc pc = .ok (.if_icmp .le off, 3)) (ht : (pc : Int) + off = (tgt : Int)) (kt : x ≤ y → J l D a g G nL M L tgt loc rest) (kf : ¬ x ≤ y → J l D a g G nL M L (pc + 3) loc rest) : J l D a g G nL M L pc loc (.int y :: .int x :: rest) :=
  fun H locs ls hP hS hl => lv_icmp_le hX.1 hX.2.1 hd ht (fun h => kt h H locs ls hP hS hl) (fun h => kf h H locs ls hP hS hl)
theorem J_goto (hX : jX D a g G own cc nL fr lo) {off : Int} (tgt : Nat) (hd : decode cc pc = .ok (.goto off, 3)) (ht : (pc : Int) + off = (tgt : Int)) (k : J l D a g G nL M L tgt loc rest) : J l D a g G nL M L pc loc rest :=
  fun H locs ls hP hS hl => lv_goto hX.1 hX.2.1 hd ht (k H locs ls hP hS hl)
theorem J_tableIn (hX : jX D a g G own cc nL fr lo) {dflt lo1 hi1 : Int} {offs : Array Int} {len : Nat} {x : Int32} {off : Int} (tgt : Nat) (hd : decode cc pc = .ok (.tableswitch dflt lo1 hi1 offs, len)) (h1 : ¬ x.toInt < lo1) (h2 : ¬ hi1 < x.toInt) (ho : offs[(x.toInt - lo1).toNat]? = some off) (ht : (pc : Int) + off = (tgt : Int)) (k : J l D a g G nL M L tgt loc rest) : J l D a g G nL M L pc loc (.int x :: rest) :=
  fun H locs ls hP hS hl => lv_tableIn hX.1 hX.2.1 hd h1 h2 ho ht (k H locs ls hP hS hl)
theorem J_tableOut (hX : jX D a g G own cc nL fr lo) {dflt lo1 hi1 : Int} {offs : Array Int} {len : Nat} {x : Int32} (tgt : Nat) (hd : decode cc pc = .ok (.tableswitch dflt lo1 hi1 offs, len)) (h : x.toInt < lo1 ∨ hi1 < x.toInt) (ht : (pc : Int) + dflt = (tgt : Int)) (k : J l D a g G nL M L tgt loc rest) : J l D a g G nL M L pc loc (.int x :: rest) :=
  fun H locs ls hP hS hl => lv_tableOut hX.1 hX.2.1 hd h ht (k H locs ls hP hS hl)
theorem J_lookup (hX : jX D a g G own cc nL fr lo) {dflt : Int} {ps : Array (Int × Int)} {len : Nat} {x : Int32} {off : Int} (tgt : Nat) (hd : decode cc pc = .ok (.lookupswitch dflt ps, len)) (hp : (ps.toList.zip (ps.toList.drop 1)).all (fun (a, next) => a.1 < next.1) = true) (ho : Op.lookupswitch.offset ps.toList dflt x.toInt = off) (ht : (pc : Int) + off = (tgt : Int)) (k : J l D a g G nL M L tgt loc rest) : J l D a g G nL M L pc loc (.int x :: rest) :=
  fun H locs ls hP hS hl => lv_lookup hX.1 hX.2.1 hd hp ho ht (k H locs ls hP hS hl)
theorem J_ldc (hX : jX D a g G own cc nL fr lo) {idx : Nat} {v : Int32} (hd : decode cc pc = .ok (.ldc idx, 2)) (hw : Cond.constant own idx v ∈ wsL_law) (k : J l D a g G nL M L (pc + 2) loc (.int v :: rest)) : J l D a g G nL M L pc loc rest :=
  fun H locs ls hP hS hl => lv_ldc hX.1 hX.2.1 hX.2.2.2.1 (hX.2.2.2.2.1 _ hw) hd (k H locs ls hP hS hl)
theorem J_ldcw (hX : jX D a g G own cc nL fr lo) {idx : Nat} {v : Int32} (hd : decode cc pc = .ok (.ldc_w idx, 3)) (hw : Cond.constant own idx v ∈ wsL_law) (k : J l D a g G nL M L (pc + 3) loc (.int v :: rest)) : J l D a g G nL M L pc loc rest :=
  fun H locs ls hP hS hl => lv_ldcw hX.1 hX.2.1 hX.2.2.2.1 (hX.2.2.2.2.1 _ hw) hd (k H locs ls hP hS hl)
theorem J_ldc2 (hX : jX D a g G own cc nL fr lo) {idx : Nat} {v : Int64} (hd : decode cc pc = .ok (.ldc2_w idx, 3)) (hw : Cond.constantLong own idx v ∈ wsL_law) (k : J l D a g G nL M L (pc + 3) loc (.long v :: rest)) : J l D a g G nL M L pc loc rest :=
  fun H locs ls hP hS hl => lv_ldc2 hX.1 hX.2.1 hX.2.2.2.1 (hX.2.2.2.2.1 _ hw) hd (k H locs ls hP hS hl)
/-- a word of a field's link, for the class of number ci -/
theorem J_geti (hX : jX D a g G own cc nL fr lo) {idx ci : Nat} {fs : List (Option Nat)} {C : String} {T : u_T} {N : Nat} (q j : Nat) (hd : decode cc pc = .ok (.getfield idx, 3)) (hq : jCs[q]? = some (jo ci fs)) (hf : fs[j]? = some none) (hc : vwCl[ci]? = some (C, T, N)) (hj : j < N) (hin : ∀ w ∈ u_ws C T N, w ∈ wsL_law) (hw : Cond.fieldLink own idx (T j).1 (T j).2.1 (T j).2.2.1 ∈ wsL_law) (k : J l D a g G nL M L (pc + 3) loc (.int (M q j) :: rest)) : J l D a g G nL M L pc loc (.ref (a q) :: rest) :=
  fun H locs ls hP hS hl => va_get (D := D) (cl := vwCl) hX.1 hX.2.1 hX.2.2.2.2.1 hin hX.2.2.2.1 hX.2.2.2.2.2.1 hP q (jW_at hq) hc j hj (hX.2.2.2.2.1 _ hw) (fun _ h => h) (v := .int (M q j)) (by simp only [List.getElem?_mapIdx, hf, Option.map_some, jf]) hd (k H locs ls hP hS hl)
theorem J_getr (hX : jX D a g G own cc nL fr lo) {idx ci r : Nat} {fs : List (Option Nat)} {C : String} {T : u_T} {N : Nat} (q j : Nat) (hd : decode cc pc = .ok (.getfield idx, 3)) (hq : jCs[q]? = some (jo ci fs)) (hf : fs[j]? = some (some r)) (hc : vwCl[ci]? = some (C, T, N)) (hj : j < N) (hin : ∀ w ∈ u_ws C T N, w ∈ wsL_law) (hw : Cond.fieldLink own idx (T j).1 (T j).2.1 (T j).2.2.1 ∈ wsL_law) (k : J l D a g G nL M L (pc + 3) loc (.ref (a r) :: rest)) : J l D a g G nL M L pc loc (.ref (a q) :: rest) :=
  fun H locs ls hP hS hl => va_get (D := D) (cl := vwCl) hX.1 hX.2.1 hX.2.2.2.2.1 hin hX.2.2.2.1 hX.2.2.2.2.2.1 hP q (jW_at hq) hc j hj (hX.2.2.2.2.1 _ hw) (fun _ h => h) (v := .ref (a r)) (by simp only [List.getElem?_mapIdx, hf, Option.map_some, jf]) hd (k H locs ls hP hS hl)
theorem jf_set {k j : Nat} {v : Int32} {fs : List (Option Nat)} (hf : fs[j]? = some none) : (fs.mapIdx (fun i f => jf a M k i f)).set j (.int v) = fs.mapIdx (fun i f => jf a (jU M k j v) k i f) := by
  apply List.ext_getElem?
  intro i
  by_cases e : i = j
  · subst e
    rw [List.getElem?_set_self (by rw [List.length_mapIdx]; exact (List.getElem?_eq_some_iff.mp hf).1)]
    simp [List.getElem?_mapIdx, hf, jU]
  · rw [List.getElem?_set_ne (Ne.symm e)]
    simp only [List.getElem?_mapIdx]
    cases hi : fs[i]? with
    | none => rfl
    | some f => cases f with
      | none => simp [jU, e]
      | some r => rfl
theorem J_puti (hX : jX D a g G own cc nL fr lo) {idx ci : Nat} {fs : List (Option Nat)} {C : String} {T : u_T} {N : Nat} {v : Int32} {ty : FieldType} (q j : Nat) (hd : decode cc pc = .ok (.putfield idx, 3)) (hq : jCs[q]? = some (jo ci fs)) (hf : fs[j]? = some none) (hc : vwCl[ci]? = some (C, T, N)) (hj : j < N) (hin : ∀ w ∈ u_ws C T N, w ∈ wsL_law) (hw : Cond.fieldLink own idx (T j).1 (T j).2.1 (T j).2.2.1 ∈ wsL_law)
    (ty0 : Nat → FieldType) (hty : ∀ k, k < N → parseFieldDescriptor (T k).2.2.1 = some (ty0 k)) (hnm : ∀ a, a < N → ∀ b, b < N → a ≠ b → (T a).2.1 ≠ (T b).2.1) (hfin : (T j).2.2.2 = false) (hp : parseFieldDescriptor (T j).2.2.1 = some ty) (hn : narrow ty (.int v) = .int v) (hfit : fits ty (.int v) = true)
    (k : J l D a g G nL (jU M q j v) L (pc + 3) loc rest) : J l D a g G nL M L pc loc (.int v :: .ref (a q) :: rest) := by
  intro H locs ls hP hS hl
  refine va_put (D := D) (cl := vwCl) (A := jA a) hX.1 hX.2.1 hX.2.2.2.2.1 hin ty0 hty hnm hX.2.2.2.1 hX.2.2.2.2.2.1 hP (jW_D hX.2.2.2.2.2.2.2.1 g M L) hS q (jW_at hq) hc j hj (hX.2.2.2.2.1 _ hw) (fun _ h => h) hfin hp hn hfit (by rw [List.length_mapIdx]; exact (List.getElem?_eq_some_iff.mp hf).1) hd (fun H1 locs1 h1 _ hS1 => ?_)
  rw [jf_set hf] at h1
  have e := jW_set (a := a) (g := g) (M := M) (M' := jU M q j v) (L := L) (L' := L) hq (fun k' h => (jU_ne h).symm) (fun _ _ => rfl)
  rw [show jE a g (jU M q j v) L q (jo ci fs) = .inr (ci, fs.mapIdx (fun i f => jf a (jU M q j v) q i f)) from rfl] at e
  rw [e] at h1
  exact k H1 locs1 ls h1 hS1 hl
theorem J_iald (hX : jX D a g G own cc nL fr lo) {n : Nat} {x : Int32} (q i : Nat) (hd : decode cc pc = .ok (.iaload, 1)) (hq : jCs[q]? = some (ji 0 n)) (hx : x = nI i) (hi : i < n) (hn : n < 2 ^ 31) (k : J l D a g G nL M L (pc + 1) loc (.int (M q i) :: rest)) : J l D a g G nL M L pc loc (.int x :: .ref (a q) :: rest) := by
  intro H locs ls hP hS hl
  subst hx
  refine va_iald hX.1 hX.2.1 hX.2.2.2.2.2.1 hP q 0 (jW_at hq) rfl (vp_in_nI hi hn) hd ?_
  rw [nI_clamp (by omega)]
  exact k H locs ls hP hS hl
theorem J_zald (hX : jX D a g G own cc nL fr lo) {n : Nat} {x : Int32} (q i : Nat) (hd : decode cc pc = .ok (.baload, 1)) (hq : jCs[q]? = some (ji 2 n)) (hx : x = nI i) (hi : i < n) (hn : n < 2 ^ 31) (k : J l D a g G nL M L (pc + 1) loc (.int (M q i) :: rest)) : J l D a g G nL M L pc loc (.int x :: .ref (a q) :: rest) := by
  intro H locs ls hP hS hl
  subst hx
  refine va_zald hX.1 hX.2.1 hX.2.2.2.2.2.1 hP q 2 (jW_at hq) rfl (vp_in_nI hi hn) hd ?_
  rw [nI_clamp (by omega)]
  exact k H locs ls hP hS hl
theorem J_lald (hX : jX D a g G own cc nL fr lo) {n : Nat} {x : Int32} (q i : Nat) (hd : decode cc pc = .ok (.laload, 1)) (hq : jCs[q]? = some (jj n)) (hx : x = nI i) (hi : i < n) (hn : n < 2 ^ 31) (k : J l D a g G nL M L (pc + 1) loc (.long (L q i) :: rest)) : J l D a g G nL M L pc loc (.int x :: .ref (a q) :: rest) := by
  intro H locs ls hP hS hl
  subst hx
  refine va_lald hX.1 hX.2.1 hX.2.2.2.2.2.1 hP q 1 (jW_at hq) rfl (vp_in_nI hi hn) hd ?_
  rw [nI_clamp (by omega)]
  exact k H locs ls hP hS hl
theorem J_iast (hX : jX D a g G own cc nL fr lo) {n : Nat} {x v : Int32} (q i : Nat) (hd : decode cc pc = .ok (.iastore, 1)) (hq : jCs[q]? = some (ji 0 n)) (hx : x = nI i) (hi : i < n) (hn : n < 2 ^ 31) (k : J l D a g G nL (jU M q i v) L (pc + 1) loc rest) : J l D a g G nL M L pc loc (.int v :: .int x :: .ref (a q) :: rest) := by
  intro H locs ls hP hS hl
  subst hx
  refine va_iast hX.1 hX.2.1 hX.2.2.2.2.2.1 hP (jW_D hX.2.2.2.2.2.2.2.1 g M L) hS q 0 (jW_at hq) rfl (vp_in_nI hi hn) hd (fun H1 locs1 h1 _ hS1 => ?_)
  rw [nI_clamp (by omega), ← jU_row] at h1
  have e := jW_set (a := a) (g := g) (M := M) (M' := jU M q i v) (L := L) (L' := L) hq (fun k' h => (jU_ne h).symm) (fun _ _ => rfl)
  rw [show jE a g (jU M q i v) L q (ji 0 n) = .inl (g 0, n, .inl (jU M q i v q)) from rfl] at e
  rw [e] at h1
  exact k H1 locs1 ls h1 hS1 hl
theorem J_zast (hX : jX D a g G own cc nL fr lo) {n : Nat} {x v : Int32} (q i : Nat) (hd : decode cc pc = .ok (.bastore, 1)) (hq : jCs[q]? = some (ji 2 n)) (hx : x = nI i) (hi : i < n) (hn : n < 2 ^ 31) (hv : vp_nar .boolean v = v) (k : J l D a g G nL (jU M q i v) L (pc + 1) loc rest) : J l D a g G nL M L pc loc (.int v :: .int x :: .ref (a q) :: rest) := by
  intro H locs ls hP hS hl
  subst hx
  refine va_zast hX.1 hX.2.1 hX.2.2.2.2.2.1 hP (jW_D hX.2.2.2.2.2.2.2.1 g M L) hS q 2 (jW_at hq) rfl (vp_in_nI hi hn) hd (fun H1 locs1 h1 _ hS1 => ?_)
  rw [nI_clamp (by omega), hv, ← jU_row] at h1
  have e := jW_set (a := a) (g := g) (M := M) (M' := jU M q i v) (L := L) (L' := L) hq (fun k' h => (jU_ne h).symm) (fun _ _ => rfl)
  rw [show jE a g (jU M q i v) L q (ji 2 n) = .inl (g 2, n, .inl (jU M q i v q)) from rfl] at e
  rw [e] at h1
  exact k H1 locs1 ls h1 hS1 hl
theorem J_last (hX : jX D a g G own cc nL fr lo) {n : Nat} {x : Int32} {v : Int64} (q i : Nat) (hd : decode cc pc = .ok (.lastore, 1)) (hq : jCs[q]? = some (jj n)) (hx : x = nI i) (hi : i < n) (hn : n < 2 ^ 31) (k : J l D a g G nL M (jUL L q i v) (pc + 1) loc rest) : J l D a g G nL M L pc loc (.long v :: .int x :: .ref (a q) :: rest) := by
  intro H locs ls hP hS hl
  subst hx
  refine va_last hX.1 hX.2.1 hX.2.2.2.2.2.1 hP (jW_D hX.2.2.2.2.2.2.2.1 g M L) hS q 1 (jW_at hq) rfl (vp_in_nI hi hn) hd (fun H1 locs1 h1 _ hS1 => ?_)
  rw [nI_clamp (by omega), ← jUL_row] at h1
  have e := jW_set (a := a) (g := g) (M := M) (M' := M) (L := L) (L' := jUL L q i v) hq (fun _ _ => rfl) (fun k' h => (jUL_ne h).symm)
  rw [show jE a g M (jUL L q i v) q (jj n) = .inl (g 1, n, .inr (.inl (jUL L q i v q))) from rfl] at e
  rw [e] at h1
  exact k H1 locs1 ls h1 hS1 hl
theorem J_aald (hX : jX D a g G own cc nL fr lo) {t r : Nat} {js : List Nat} {x : Int32} {ty : FieldType} (q i : Nat) (hd : decode cc pc = .ok (.aaload, 1)) (hq : jCs[q]? = some (jr t js)) (ht : (jT g)[t]? = some (g t, ty)) (hty : ty.isReference = true) (hx : x = nI i) (hi : js[i]? = some r) (hn : js.length < 2 ^ 31) (k : J l D a g G nL M L (pc + 1) loc (.ref (a r) :: rest)) : J l D a g G nL M L pc loc (.int x :: .ref (a q) :: rest) := by
  intro H locs ls hP hS hl
  subst hx
  have hlt : i < js.length := (List.getElem?_eq_some_iff.mp hi).1
  have hc : H[a q]? = some (vp_cell (g t) (js.length, .inr (.inr (.inr (.inr (fun i => js[i]?.map a)))))) := hP q _ (jW_at hq)
  refine W.aald (v := .ref (a r)) (ty := ty) hX.1 hX.2.1 hc ((hX.2.2.2.2.2.1.2 t _ ht).1 js.length (fun j => va_rf (js[j]?.map a))) hty (fun q => by cases q) (by show ¬ (nI i < 0 ∨ (arrV _ _ _).slots.size ≤ _); rw [arrV_size]; exact vp_in_nI hlt hn) (by show (arrV _ _ _).slots[_]? = _; rw [nI_clamp (by omega), arrV_read _ _ hlt]; show some (va_rf (Option.map a js[i]?)) = _; rw [hi]; rfl) rfl rfl hd (k H locs ls hP hS hl)
theorem J_mmin (hX : jX D a g G own cc nL fr lo) {idx : Nat} {x y : Int32} (hd : decode cc pc = .ok (.invokestatic idx, 3)) (h1 : Cond.methodLink own idx Lib.Math.min.name ∈ wsL_law) (h2 : Cond.static Lib.Math.min.name ∈ wsL_law) (h3 : Cond.initialized "java/lang/Math" ∈ wsL_law) (h4 : Cond.code Lib.Math.min.name Lib.Math.min.code 2 (some .int) ∈ wsL_law) (hf : 1 ≤ fr) (ho : (rest.map fun v => v.category).sum + 13 ≤ lo) (k : J l D a g G nL M L (pc + 3) loc (.int (if y < x then y else x) :: rest)) : J l D a g G nL M L pc loc (.int y :: .int x :: rest) :=
  fun H locs ls hP hS hl => va_mmin hX.1 hX.2.1 (by rw [hl.1]; exact hX.2.2.1) hX.2.2.2.1 (hX.2.2.2.2.1 _ h1) (hX.2.2.2.2.1 _ h2) (hX.2.2.2.2.1 _ h3) (hX.2.2.2.2.1 _ h4) (by rw [hX.2.2.2.2.2.2.2.2.1]; exact hf) (by rw [hX.2.2.2.2.2.2.2.2.2.1]; exact ho) hX.2.2.2.2.2.2.2.2.2.2.1 hX.2.2.2.2.2.2.2.2.2.2.2 hd (k H locs ls hP hS hl)
theorem J_mmax (hX : jX D a g G own cc nL fr lo) {idx : Nat} {x y : Int32} (hd : decode cc pc = .ok (.invokestatic idx, 3)) (h1 : Cond.methodLink own idx Lib.Math.max.name ∈ wsL_law) (h2 : Cond.static Lib.Math.max.name ∈ wsL_law) (h3 : Cond.initialized "java/lang/Math" ∈ wsL_law) (h4 : Cond.code Lib.Math.max.name Lib.Math.max.code 2 (some .int) ∈ wsL_law) (hf : 1 ≤ fr) (ho : (rest.map fun v => v.category).sum + 13 ≤ lo) (k : J l D a g G nL M L (pc + 3) loc (.int (if x < y then y else x) :: rest)) : J l D a g G nL M L pc loc (.int y :: .int x :: rest) :=
  fun H locs ls hP hS hl => va_mmax hX.1 hX.2.1 (by rw [hl.1]; exact hX.2.2.1) hX.2.2.2.1 (hX.2.2.2.2.1 _ h1) (hX.2.2.2.2.1 _ h2) (hX.2.2.2.2.1 _ h3) (hX.2.2.2.2.1 _ h4) (by rw [hX.2.2.2.2.2.2.2.2.1]; exact hf) (by rw [hX.2.2.2.2.2.2.2.2.2.1]; exact ho) hX.2.2.2.2.2.2.2.2.2.2.1 hX.2.2.2.2.2.2.2.2.2.2.2 hd (k H locs ls hP hS hl)
theorem J_mmax_long (hX : jX D a g G own cc nL fr lo) {idx : Nat} {x y : Int64} (hd : decode cc pc = .ok (.invokestatic idx, 3)) (h1 : Cond.methodLink own idx Lib.MathLoose.max_long.x ∈ wsL_law) (h2 : Cond.static Lib.MathLoose.max_long.x ∈ wsL_law) (h3 : Cond.initialized "java/lang/Math" ∈ wsL_law) (h4 : Cond.code Lib.MathLoose.max_long.x Lib.MathLoose.max_long.code 4 (some .long) ∈ wsL_law) (hf : 1 ≤ fr) (ho : (rest.map fun v => v.category).sum + 15 ≤ lo) (k : J l D a g G nL M L (pc + 3) loc (.long (if y < x then x else y) :: rest)) : J l D a g G nL M L pc loc (.long y :: .long x :: rest) :=
  fun H locs ls hP hS hl => va_mmax_long hX.1 hX.2.1 (by rw [hl.1]; exact hX.2.2.1) hX.2.2.2.1 (hX.2.2.2.2.1 _ h1) (hX.2.2.2.2.1 _ h2) (hX.2.2.2.2.1 _ h3) (hX.2.2.2.2.1 _ h4) (by rw [hX.2.2.2.2.2.2.2.2.1]; exact hf) (by rw [hX.2.2.2.2.2.2.2.2.2.1]; exact ho) hX.2.2.2.2.2.2.2.2.2.2.1 hX.2.2.2.2.2.2.2.2.2.2.2 hd (k H locs ls hP hS hl)
/-- arraycopy of n ints, from place 0 to place 0 -/
def jCp (M : jM) (s t n : Nat) : jM := fun k i => if k = t ∧ i < n then M s i else M k i
theorem jCp_row {s t n : Nat} : jCp M s t n t = va_cpy (M s) (M t) 0 0 n := by
  funext i
  simp [jCp, va_cpy]
theorem jCp_ne {s t n k : Nat} (h : k ≠ t) : jCp M s t n k = M k := by
  funext i
  simp [jCp, h]
theorem J_copyi (hX : jX D a g G own cc nL fr lo) {idx n0 n1 n : Nat} {z : Int32} (s t : Nat) (hd : decode cc pc = .ok (.invokestatic idx, 3)) (h1 : Cond.methodLink own idx arraycopyName ∈ wsL_law) (h2 : Cond.native arraycopyName ∈ wsL_law) (h3 : Cond.static arraycopyName ∈ wsL_law) (h4 : Cond.initialized "java/lang/System" ∈ wsL_law) (hs : jCs[s]? = some (ji 0 n0)) (ht : jCs[t]? = some (ji 0 n1)) (hz : z = nI n) (hn0 : n ≤ n0) (hn1 : n ≤ n1) (hnn : n < 2 ^ 31) (hf : 1 ≤ fr) (ho : (rest.map fun v => v.category).sum + (nativeFrameWords "java/lang/System" "arraycopy" 5 + 11) ≤ lo)
    (k : J l D a g G nL (jCp M s t n) L (pc + 3) loc rest) : J l D a g G nL M L pc loc (.int z :: .int 0 :: .ref (a t) :: .int 0 :: .ref (a s) :: rest) := by
  intro H locs ls hP hS hl
  subst hz
  refine va_copyi hX.1 hX.2.1 (by rw [hl.1]; exact hX.2.2.1) hX.2.2.2.1 (hX.2.2.2.2.1 _ h1) (hX.2.2.2.2.1 _ h2) (hX.2.2.2.2.1 _ h3) (hX.2.2.2.2.1 _ h4) hX.2.2.2.2.2.1 hP (jW_D hX.2.2.2.2.2.2.2.1 g M L) hS s t 0 0 (ty := .int) (jW_at hs) (jW_at ht) rfl rfl rfl (by decide) (by decide) (nI_pos hnn) (by rw [nI_clamp hnn]; show 0 + n ≤ n0; omega) (by rw [nI_clamp hnn]; show 0 + n ≤ n1; omega) (fun _ _ => rfl) (by rw [hX.2.2.2.2.2.2.2.2.1]; exact hf) (by rw [hX.2.2.2.2.2.2.2.2.2.1]; exact ho) hd (fun H1 locs1 h1 _ hS1 => ?_)
  rw [nI_clamp hnn, show (0 : Int32).toNatClampNeg = 0 from rfl, ← jCp_row] at h1
  have e := jW_set (a := a) (g := g) (M := M) (M' := jCp M s t n) (L := L) (L' := L) ht (fun k' h => (jCp_ne h).symm) (fun _ _ => rfl)
  rw [show jE a g (jCp M s t n) L t (ji 0 n1) = .inl (g 0, n1, .inl (jCp M s t n t)) from rfl] at e
  rw [e] at h1
  exact k H1 locs1 ls h1 hS1 hl
theorem J_ret (hX : jX D a g G own cc nL fr lo) {ret : Option FieldType} {post : jPo} {v : Int32} (hZ : jZ D a g G ret post) (hd : decode cc pc = .ok (.ireturn, 1)) {ty : FieldType} (hr : ret = some ty) (hn : narrow ty (.int v) = .int v) (hp : post (some (.int v)) M L) : J l D a g G nL M L pc loc [.int v] := by
  intro H locs ls hP hS hl
  subst hr
  rw [hZ.2.2]
  exact W.zret hX.1 hX.2.1 hZ.1 hn (fun t ht hW => ⟨_, M, L, rfl, hp, by rw [ht]; exact hP, hS.F ht⟩) hS.2.2 hd hZ.2.1
theorem J_lret (hX : jX D a g G own cc nL fr lo) {post : jPo} {v : Int64} (hZ : jZ D a g G (some .long) post) (hd : decode cc pc = .ok (.lreturn, 1)) (hp : post (some (.long v)) M L) : J l D a g G nL M L pc loc [.long v] := by
  intro H locs ls hP hS hl
  rw [hZ.2.2]
  exact W.lret hX.1 hX.2.1 hZ.1 (fun t ht hW => ⟨_, M, L, rfl, hp, by rw [ht]; exact hP, hS.F ht⟩) hS.2.2 hd hZ.2.1
theorem J_vret (hX : jX D a g G own cc nL fr lo) {post : jPo} (hZ : jZ D a g G none post) (hd : decode cc pc = .ok (.return_, 1)) (hp : post none M L) : J l D a g G nL M L pc loc [] := by
  intro H locs ls hP hS hl
  rw [hZ.2.2]
  exact W.vret hX.1 hX.2.1 hZ.1 (fun t ht hW => ⟨_, M, L, rfl, hp, by rw [ht]; exact hP, hS.F ht⟩) hS.2.2 hd hZ.2.1
theorem J_cg {M' : jM} {L' : jL} {st st' : List Value} (h1 : M = M') (h2 : L = L') (h3 : loc = loc') (h4 : st = st') (k : J l D a g G nL M' L' pc loc' st') : J l D a g G nL M L pc loc st := by
  subst h1; subst h2; subst h3; subst h4
  exact k
/-- fewer locals, in another order -/
theorem J_sub (ks : List Nat) (h : lv_pick loc ks = loc') {st : List Value} (k : J l D a g G nL M L pc loc' st) : J l D a g G nL M L pc loc st :=
  fun H locs ls hP hS hl => k H locs ls hP hS (lv_sub hl ks h)
theorem J_topi {x y : Int32} (h : x = y) (k : J l D a g G nL M L pc loc (.int y :: rest)) : J l D a g G nL M L pc loc (.int x :: rest) := h ▸ k
theorem J_topl {x y : Int64} (h : x = y) (k : J l D a g G nL M L pc loc (.long y :: rest)) : J l D a g G nL M L pc loc (.long x :: rest) := h ▸ k

theorem jP_blind {av : List Value} : FrameBlind (jP D a g av M L) := by
  intro b U fr mk h
  obtain ⟨q0, qP, qK, qN, qI⟩ := h
  exact ⟨q0, qP, va_K.moved (u := U) (U := U.calling fr mk b) (Vm.Alike.refl U.vm) qK, jN.same (u := U) (U := U.calling fr mk b) rfl qN, qI⟩
theorem jGoodIn {w : Cond} (h : w ∈ wsL_law) : GoodIn wsL_law (w :: wsL_law) := fun z hz => by
  have hm : z ∈ wsL_law := (List.mem_cons.mp hz).elim (fun e => e ▸ h) id
  exact ⟨hm, good_of_word (jGood z hm)⟩
/-- the tables' words of a call -/
def jLv (own : String) (idx : Nat) (y : MethodName) (C : ByteArray) (n : Nat) (ret : Option FieldType) (np : Nat) : Prop :=
  Cond.methodLink own idx y ∈ wsL_law ∧ Cond.instanceMethod y ∈ wsL_law ∧ Cond.selects y.cls y y ∈ wsL_law ∧ Cond.initialized y.cls ∈ wsL_law ∧ Cond.code y C n ret ∈ wsL_law ∧ y.cls ≠ "java/lang/invoke/MethodHandle" ∧ y.cls ≠ "java/lang/invoke/VarHandle" ∧ (parseMethodDescriptor y.desc).map (fun d => d.parameters.length) = some np
def jLs (own : String) (idx : Nat) (y : MethodName) (C : ByteArray) (n : Nat) (ret : Option FieldType) (np : Nat) : Prop :=
  Cond.methodLink own idx y ∈ wsL_law ∧ Cond.static y ∈ wsL_law ∧ Cond.initialized y.cls ∈ wsL_law ∧ Cond.code y C n ret ∈ wsL_law ∧ y.cls ≠ "java/lang/invoke/MethodHandle" ∧ y.cls ≠ "java/lang/invoke/VarHandle" ∧ (parseMethodDescriptor y.desc).map (fun d => d.parameters.length) = some np
/-- of a nest mate's private static method: its link stands in jN -/
def jLn (y : MethodName) (C : ByteArray) (n : Nat) (ret : Option FieldType) (np : Nat) : Prop :=
  Cond.static y ∈ wsL_law ∧ Cond.initialized y.cls ∈ wsL_law ∧ Cond.code y C n ret ∈ wsL_law ∧ y.cls ≠ "java/lang/invoke/MethodHandle" ∧ y.cls ≠ "java/lang/invoke/VarHandle" ∧ (parseMethodDescriptor y.desc).map (fun d => d.parameters.length) = some np
theorem J_back {post : jPo} {av : Array Value} {H : Heap} {locs : List Loc} {ls : Array Slot} {st0 : List Value} (hr : va_Run (gp G) l (ge G) (gR G) (gs G) (gm G) (gar G) (gb G) (gme G) (gc G) H locs (gce G) (gsl G) 0 0 (F0 (gm G) pc ls st0) rest (jQ D a g post av) (jA a))
    (hS : va_S (jA a) (gs G).heap H locs) (hl : lv_has ls nL loc) (k : ∀ (rv : Option Value) (M1 : jM) (L1 : jL), post rv M1 L1 → J l D a g G nL M1 L1 (pc + 3) loc (rv.toList ++ rest)) : W (gp G) l (ge G) (gR G) (gs G) (gm G) (gar G) (gb G) (gme G) (gc G) H locs (gce G) (gsl G) (gQ G) (F0 (gm G) pc ls st0) := by
  intro T hT X
  obtain ⟨v, st₀, t, T', L2, h0, X', hL2, e1, e2, ⟨rv, M1, L1, hv, hpo, hp, hz, hk⟩, go⟩ := hr T hT X
  have hv' : v = rv := by cases hv; rfl
  subst hv'
  rw [h0] at hz hk
  obtain ⟨t2, a1, b1⟩ := k v M1 L1 hpo T'.heap (locs ++ L2) ls (by rw [e1]; exact hp) ⟨Nat.le_trans hS.1 (by rw [e1]; exact hz), fun q h1 h2 => by rw [e1, hk q (Nat.lt_of_lt_of_le h1 hS.1) h2]; exact hS.2.1 q h1 h2, fun q hq => by
      rcases List.mem_append.mp hq with h | h
      · exact hS.2.2 q h
      · exact hL2 q h⟩ hl T' rfl X'
  exact ⟨t2, go t2 a1, b1⟩
theorem J_callV (hX : jX D a g G own cc nL fr lo) {idx np n' fr' lo' ci : Nat} {y : MethodName} {C' : ByteArray} {ret' : Option FieldType} {post : jPo} {fs : List (Option Nat)} {T : u_T} {N : Nat} {st0 : List Value} (q : Nat) (As : List Value) (rest : List Value) (hd : decode cc pc = .ok (.invokevirtual idx, 3)) (hM : jV l D a g y C' n' ret' fr' lo' (.ref (a q) :: As) M L post) (hw : jLv own idx y C' n' ret' np)
    (hq : jCs[q]? = some (jo ci fs)) (hc : vwCl[ci]? = some (y.cls, T, N)) (hn : As.length = np) (hst0 : As.reverse ++ .ref (a q) :: rest = st0) (hsum : (rest.map fun v => v.category).sum ≤ 8) (hfr : fr' + 1 ≤ fr) (hlo : 8 + (n' + 11) + lo' ≤ lo)
    (k : ∀ (rv : Option Value) (M1 : jM) (L1 : jL), post rv M1 L1 → J l D a g G nL M1 L1 (pc + 3) loc (rv.toList ++ rest)) : J l D a g G nL M L pc loc st0 := by
  intro H locs ls hP hS hl
  subst hst0
  obtain ⟨w1, w2, w3, w4, w5, w6, w7, w8⟩ := hw
  have hts := hX.2.2.2.2.1
  have cb : CallB (gR G) (gs G) (gar G) own idx y C' n' ret' (.code y C' n' ret' :: wsL_law) ({ frames := fr', cells := 0, slots := 0, locals := lo' }) 0 0 np := callB_of np hts (jGoodIn w5) rfl rfl rfl (hts _ w4) (hts _ w1) ⟨w6, w7, w8⟩ ⟨by rw [hX.2.2.2.2.2.2.2.2.1]; exact hfr, by rw [hX.2.2.2.2.2.2.2.2.2.1]; exact hlo⟩
  exact J_back (va_runV (C := y.cls) (As := As) (rest := rest) ⟨hX.1, hX.2.1, hX.2.2.1, hX.2.2.2.1, hts⟩ hM ⟨cb, hts _ w2, hts _ w3⟩ ⟨jP_blind, va_recv hX.2.2.2.2.2.1 hP hc (jW_at hq), fun U hU hW => ⟨rfl, by rw [hU]; exact hP, va_K.moved hW.alike hX.2.2.2.2.2.1, jN.warm hW hX.2.2.2.2.2.2.1, hX.2.2.2.2.2.2.2.1⟩⟩ rfl hn hl.1 rfl (lv_room hsum) hd ⟨hX.2.2.2.2.2.2.2.2.2.2.1, hX.2.2.2.2.2.2.2.2.2.2.2⟩) hS hl k
theorem J_callS (hX : jX D a g G own cc nL fr lo) {idx np n' fr' lo' : Nat} {y : MethodName} {C' : ByteArray} {ret' : Option FieldType} {post : jPo} {st0 : List Value} (As : List Value) (rest : List Value) (hd : decode cc pc = .ok (.invokestatic idx, 3)) (hM : jV l D a g y C' n' ret' fr' lo' As M L post) (hw : jLs own idx y C' n' ret' np)
    (hn : As.length = np) (hst0 : As.reverse ++ rest = st0) (hsum : (rest.map fun v => v.category).sum ≤ 8) (hfr : fr' + 1 ≤ fr) (hlo : 8 + (n' + 11) + lo' ≤ lo)
    (k : ∀ (rv : Option Value) (M1 : jM) (L1 : jL), post rv M1 L1 → J l D a g G nL M1 L1 (pc + 3) loc (rv.toList ++ rest)) : J l D a g G nL M L pc loc st0 := by
  intro H locs ls hP hS hl
  subst hst0
  obtain ⟨w1, w2, w4, w5, w6, w7, w8⟩ := hw
  have hts := hX.2.2.2.2.1
  have cb : CallB (gR G) (gs G) (gar G) own idx y C' n' ret' (.code y C' n' ret' :: wsL_law) ({ frames := fr', cells := 0, slots := 0, locals := lo' }) 0 0 np := callB_of np hts (jGoodIn w5) rfl rfl rfl (hts _ w4) (hts _ w1) ⟨w6, w7, w8⟩ ⟨by rw [hX.2.2.2.2.2.2.2.2.1]; exact hfr, by rw [hX.2.2.2.2.2.2.2.2.2.1]; exact hlo⟩
  exact J_back (va_runS (As := As) (rest := rest) ⟨hX.1, hX.2.1, hX.2.2.1, hX.2.2.2.1, hts⟩ hM ⟨cb, hts _ w2⟩ ⟨jP_blind, fun U hU hW => ⟨rfl, by rw [hU]; exact hP, va_K.moved hW.alike hX.2.2.2.2.2.1, jN.warm hW hX.2.2.2.2.2.2.1, hX.2.2.2.2.2.2.2.1⟩⟩ rfl hn hl.1 rfl (lv_room hsum) hd ⟨hX.2.2.2.2.2.2.2.2.2.2.1, hX.2.2.2.2.2.2.2.2.2.2.2⟩) hS hl k
theorem J_callN (hX : jX D a g G own cc nL fr lo) {idx np n' fr' lo' : Nat} {y : MethodName} {host : String} {C' : ByteArray} {ret' : Option FieldType} {post : jPo} {st0 : List Value} (As : List Value) (rest : List Value) (hd : decode cc pc = .ok (.invokestatic idx, 3)) (hM : jV l D a g y C' n' ret' fr' lo' As M L post) (hw : jLn y C' n' ret' np) (hlk : va_Nw (.methodLinkNest own idx y host) (gs G))
    (hn : As.length = np) (hst0 : As.reverse ++ rest = st0) (hsum : (rest.map fun v => v.category).sum ≤ 8) (hfr : fr' + 1 ≤ fr) (hlo : 8 + (n' + 11) + lo' ≤ lo)
    (k : ∀ (rv : Option Value) (M1 : jM) (L1 : jL), post rv M1 L1 → J l D a g G nL M1 L1 (pc + 3) loc (rv.toList ++ rest)) : J l D a g G nL M L pc loc st0 := by
  intro H locs ls hP hS hl
  subst hst0
  obtain ⟨w2, w4, w5, w6, w7, w8⟩ := hw
  have hts := hX.2.2.2.2.1
  have cb : va_CN (gR G) (gs G) (gar G) own idx y host C' n' ret' (.code y C' n' ret' :: wsL_law) ({ frames := fr', cells := 0, slots := 0, locals := lo' }) 0 0 np := va_cnB np hts (jGoodIn w5) rfl rfl rfl hlk (hts _ w4) ⟨w6, w7, w8⟩ ⟨by rw [hX.2.2.2.2.2.2.2.2.1]; exact hfr, by rw [hX.2.2.2.2.2.2.2.2.2.1]; exact hlo⟩
  exact J_back (va_runSN (As := As) (rest := rest) ⟨hX.1, hX.2.1, hX.2.2.1, hX.2.2.2.1, hts⟩ hM ⟨cb, hts _ w2, trivial⟩ ⟨jP_blind, fun U hU hW => ⟨rfl, by rw [hU]; exact hP, va_K.moved hW.alike hX.2.2.2.2.2.1, jN.warm hW hX.2.2.2.2.2.2.1, hX.2.2.2.2.2.2.2.1⟩⟩ rfl hn hl.1 rfl (lv_room hsum) hd ⟨hX.2.2.2.2.2.2.2.2.2.2.1, hX.2.2.2.2.2.2.2.2.2.2.2⟩) hS hl k
/-- behind a call whose contract tells answer and memories -/
theorem J_eq {rv : Option Value} {M1 : jM} {L1 : jL} {st : List Value} (hst : rv.toList ++ rest = st) (k : J l D a g G nL M1 L1 pc loc st) : ∀ (rv' : Option Value) (M' : jM) (L' : jL), jEq rv M1 L1 rv' M' L' → J l D a g G nL M' L' pc loc (rv'.toList ++ rest) := by
  rintro rv' M' L' ⟨rfl, rfl, rfl⟩
  rw [hst]
  exact k
def jB (p : Prop) [Decidable p] : Int32 := if p then 1 else 0
theorem J_ifB_ne (hX : jX D a g G own cc nL fr lo) {p : Prop} [Decidable p] {off : Int} (tgt : Nat) (hd : decode cc pc = .ok (.ifCond .ne off, 3)) (ht : (pc : Int) + off = (tgt : Int)) (kt : p → J l D a g G nL M L tgt loc rest) (kf : ¬ p → J l D a g G nL M L (pc + 3) loc rest) : J l D a g G nL M L pc loc (.int (jB p) :: rest) :=
  J_if_ne hX tgt hd ht (fun h => kt (by by_cases q : p; exact q; simp [jB, q] at h)) (fun h => kf (fun q => by simp [jB, q] at h))
theorem J_ifB_eq (hX : jX D a g G own cc nL fr lo) {p : Prop} [Decidable p] {off : Int} (tgt : Nat) (hd : decode cc pc = .ok (.ifCond .eq off, 3)) (ht : (pc : Int) + off = (tgt : Int)) (kt : ¬ p → J l D a g G nL M L tgt loc rest) (kf : p → J l D a g G nL M L (pc + 3) loc rest) : J l D a g G nL M L pc loc (.int (jB p) :: rest) :=
  J_if_eq hX tgt hd ht (fun h => kt (fun q => by simp [jB, q] at h)) (fun h => kf (by by_cases q : p; exact q; simp [jB, q] at h))
end JR
end
section
theorem dX0_init_0 : decode cX0_init 0 = .ok (.aload_n 0, 1) := by decide +kernel
theorem dX0_init_1 : decode cX0_init 1 = .ok (.invokespecial 1, 3) := by decide +kernel
theorem dX0_init_4 : decode cX0_init 4 = .ok (.aload_n 0, 1) := by decide +kernel
theorem dX0_init_5 : decode cX0_init 5 = .ok (.new 7, 3) := by decide +kernel
theorem dX0_init_8 : decode cX0_init 8 = .ok (.dup, 1) := by decide +kernel
theorem dX0_init_9 : decode cX0_init 9 = .ok (.invokespecial 9, 3) := by decide +kernel
theorem dX0_init_12 : decode cX0_init 12 = .ok (.putfield 10, 3) := by decide +kernel
theorem dX0_init_15 : decode cX0_init 15 = .ok (.aload_n 0, 1) := by decide +kernel
theorem dX0_init_16 : decode cX0_init 16 = .ok (.new 16, 3) := by decide +kernel
theorem dX0_init_19 : decode cX0_init 19 = .ok (.dup, 1) := by decide +kernel
theorem dX0_init_20 : decode cX0_init 20 = .ok (.invokespecial 18, 3) := by decide +kernel
theorem dX0_init_23 : decode cX0_init 23 = .ok (.putfield 19, 3) := by decide +kernel
theorem dX0_init_26 : decode cX0_init 26 = .ok (.return_, 1) := by decide +kernel
theorem dX1_init_0 : decode cX1_init 0 = .ok (.aload_n 0, 1) := by decide +kernel
theorem dX1_init_1 : decode cX1_init 1 = .ok (.invokespecial 3, 3) := by decide +kernel
theorem dX1_init_4 : decode cX1_init 4 = .ok (.aload_n 0, 1) := by decide +kernel
theorem dX1_init_5 : decode cX1_init 5 = .ok (.bipush 60, 2) := by decide +kernel
theorem dX1_init_7 : decode cX1_init 7 = .ok (.newarray .int, 2) := by decide +kernel
theorem dX1_init_9 : decode cX1_init 9 = .ok (.putfield 9, 3) := by decide +kernel
theorem dX1_init_12 : decode cX1_init 12 = .ok (.return_, 1) := by decide +kernel
theorem dX1_add_0 : decode cX1_add 0 = .ok (.aload_n 0, 1) := by decide +kernel
theorem dX1_add_1 : decode cX1_add 1 = .ok (.getfield 15, 3) := by decide +kernel
theorem dX1_add_4 : decode cX1_add 4 = .ok (.bipush 60, 2) := by decide +kernel
theorem dX1_add_6 : decode cX1_add 6 = .ok (.if_icmp .ge 23, 3) := by decide +kernel
theorem dX1_add_9 : decode cX1_add 9 = .ok (.aload_n 0, 1) := by decide +kernel
theorem dX1_add_10 : decode cX1_add 10 = .ok (.getfield 9, 3) := by decide +kernel
theorem dX1_add_13 : decode cX1_add 13 = .ok (.aload_n 0, 1) := by decide +kernel
theorem dX1_add_14 : decode cX1_add 14 = .ok (.getfield 15, 3) := by decide +kernel
theorem dX1_add_17 : decode cX1_add 17 = .ok (.iload_n 1, 1) := by decide +kernel
theorem dX1_add_18 : decode cX1_add 18 = .ok (.iastore, 1) := by decide +kernel
theorem dX1_add_19 : decode cX1_add 19 = .ok (.aload_n 0, 1) := by decide +kernel
theorem dX1_add_20 : decode cX1_add 20 = .ok (.dup, 1) := by decide +kernel
theorem dX1_add_21 : decode cX1_add 21 = .ok (.getfield 15, 3) := by decide +kernel
theorem dX1_add_24 : decode cX1_add 24 = .ok (.iconst 1, 1) := by decide +kernel
theorem dX1_add_25 : decode cX1_add 25 = .ok (.iadd, 1) := by decide +kernel
theorem dX1_add_26 : decode cX1_add 26 = .ok (.putfield 15, 3) := by decide +kernel
theorem dX1_add_29 : decode cX1_add 29 = .ok (.return_, 1) := by decide +kernel
theorem dX1_signAt_0 : decode cX1_signAt 0 = .ok (.iload_n 1, 1) := by decide +kernel
theorem dX1_signAt_1 : decode cX1_signAt 1 = .ok (.ifCond .lt 20, 3) := by decide +kernel
theorem dX1_signAt_4 : decode cX1_signAt 4 = .ok (.iload_n 1, 1) := by decide +kernel
theorem dX1_signAt_5 : decode cX1_signAt 5 = .ok (.aload_n 0, 1) := by decide +kernel
theorem dX1_signAt_6 : decode cX1_signAt 6 = .ok (.getfield 15, 3) := by decide +kernel
theorem dX1_signAt_9 : decode cX1_signAt 9 = .ok (.if_icmp .ge 12, 3) := by decide +kernel
theorem dX1_signAt_12 : decode cX1_signAt 12 = .ok (.aload_n 0, 1) := by decide +kernel
theorem dX1_signAt_13 : decode cX1_signAt 13 = .ok (.getfield 9, 3) := by decide +kernel
theorem dX1_signAt_16 : decode cX1_signAt 16 = .ok (.iload_n 1, 1) := by decide +kernel
theorem dX1_signAt_17 : decode cX1_signAt 17 = .ok (.iaload, 1) := by decide +kernel
theorem dX1_signAt_18 : decode cX1_signAt 18 = .ok (.goto 4, 3) := by decide +kernel
theorem dX1_signAt_21 : decode cX1_signAt 21 = .ok (.iconst 0, 1) := by decide +kernel
theorem dX1_signAt_22 : decode cX1_signAt 22 = .ok (.ireturn, 1) := by decide +kernel
theorem dX1_faultPlace_0 : decode cX1_faultPlace 0 = .ok (.iconst 0, 1) := by decide +kernel
theorem dX1_faultPlace_1 : decode cX1_faultPlace 1 = .ok (.istore_n 1, 1) := by decide +kernel
theorem dX1_faultPlace_2 : decode cX1_faultPlace 2 = .ok (.iconst 0, 1) := by decide +kernel
theorem dX1_faultPlace_3 : decode cX1_faultPlace 3 = .ok (.istore_n 2, 1) := by decide +kernel
theorem dX1_faultPlace_4 : decode cX1_faultPlace 4 = .ok (.iload_n 2, 1) := by decide +kernel
theorem dX1_faultPlace_5 : decode cX1_faultPlace 5 = .ok (.aload_n 0, 1) := by decide +kernel
theorem dX1_faultPlace_6 : decode cX1_faultPlace 6 = .ok (.getfield 15, 3) := by decide +kernel
theorem dX1_faultPlace_9 : decode cX1_faultPlace 9 = .ok (.if_icmp .ge 28, 3) := by decide +kernel
theorem dX1_faultPlace_12 : decode cX1_faultPlace 12 = .ok (.iload_n 1, 1) := by decide +kernel
theorem dX1_faultPlace_13 : decode cX1_faultPlace 13 = .ok (.aload_n 0, 1) := by decide +kernel
theorem dX1_faultPlace_14 : decode cX1_faultPlace 14 = .ok (.getfield 9, 3) := by decide +kernel
theorem dX1_faultPlace_17 : decode cX1_faultPlace 17 = .ok (.iload_n 2, 1) := by decide +kernel
theorem dX1_faultPlace_18 : decode cX1_faultPlace 18 = .ok (.iaload, 1) := by decide +kernel
theorem dX1_faultPlace_19 : decode cX1_faultPlace 19 = .ok (.invokestatic 19, 3) := by decide +kernel
theorem dX1_faultPlace_22 : decode cX1_faultPlace 22 = .ok (.istore_n 1, 1) := by decide +kernel
theorem dX1_faultPlace_23 : decode cX1_faultPlace 23 = .ok (.iload_n 1, 1) := by decide +kernel
theorem dX1_faultPlace_24 : decode cX1_faultPlace 24 = .ok (.bipush 6, 2) := by decide +kernel
theorem dX1_faultPlace_26 : decode cX1_faultPlace 26 = .ok (.if_icmp .ne 5, 3) := by decide +kernel
theorem dX1_faultPlace_29 : decode cX1_faultPlace 29 = .ok (.iload_n 2, 1) := by decide +kernel
theorem dX1_faultPlace_30 : decode cX1_faultPlace 30 = .ok (.ireturn, 1) := by decide +kernel
theorem dX1_faultPlace_31 : decode cX1_faultPlace 31 = .ok (.iinc 2 1, 3) := by decide +kernel
theorem dX1_faultPlace_34 : decode cX1_faultPlace 34 = .ok (.goto (-30), 3) := by decide +kernel
theorem dX1_faultPlace_37 : decode cX1_faultPlace 37 = .ok (.iload_n 1, 1) := by decide +kernel
theorem dX1_faultPlace_38 : decode cX1_faultPlace 38 = .ok (.ifCond .ne 8, 3) := by decide +kernel
theorem dX1_faultPlace_41 : decode cX1_faultPlace 41 = .ok (.bipush (-6), 2) := by decide +kernel
theorem dX1_faultPlace_43 : decode cX1_faultPlace 43 = .ok (.goto 7, 3) := by decide +kernel
theorem dX1_faultPlace_46 : decode cX1_faultPlace 46 = .ok (.aload_n 0, 1) := by decide +kernel
theorem dX1_faultPlace_47 : decode cX1_faultPlace 47 = .ok (.getfield 15, 3) := by decide +kernel
theorem dX1_faultPlace_50 : decode cX1_faultPlace 50 = .ok (.ireturn, 1) := by decide +kernel
theorem dX1_nextBehind_0 : decode cX1_nextBehind 0 = .ok (.iload_n 0, 1) := by decide +kernel
theorem dX1_nextBehind_1 : decode cX1_nextBehind 1 = .ok (.tableswitch 95 0 4 #[35, 40, 58, 72, 77], 35) := by decide +kernel
theorem dX1_nextBehind_36 : decode cX1_nextBehind 36 = .ok (.iload_n 1, 1) := by decide +kernel
theorem dX1_nextBehind_37 : decode cX1_nextBehind 37 = .ok (.invokestatic 23, 3) := by decide +kernel
theorem dX1_nextBehind_40 : decode cX1_nextBehind 40 = .ok (.ireturn, 1) := by decide +kernel
theorem dX1_nextBehind_41 : decode cX1_nextBehind 41 = .ok (.iload_n 1, 1) := by decide +kernel
theorem dX1_nextBehind_42 : decode cX1_nextBehind 42 = .ok (.bipush 49, 2) := by decide +kernel
theorem dX1_nextBehind_44 : decode cX1_nextBehind 44 = .ok (.bipush 57, 2) := by decide +kernel
theorem dX1_nextBehind_46 : decode cX1_nextBehind 46 = .ok (.invokestatic 27, 3) := by decide +kernel
theorem dX1_nextBehind_49 : decode cX1_nextBehind 49 = .ok (.ifCond .eq 7, 3) := by decide +kernel
theorem dX1_nextBehind_52 : decode cX1_nextBehind 52 = .ok (.iconst 0, 1) := by decide +kernel
theorem dX1_nextBehind_53 : decode cX1_nextBehind 53 = .ok (.goto 5, 3) := by decide +kernel
theorem dX1_nextBehind_56 : decode cX1_nextBehind 56 = .ok (.bipush 6, 2) := by decide +kernel
theorem dX1_nextBehind_58 : decode cX1_nextBehind 58 = .ok (.ireturn, 1) := by decide +kernel
theorem dX1_nextBehind_59 : decode cX1_nextBehind 59 = .ok (.iload_n 1, 1) := by decide +kernel
theorem dX1_nextBehind_60 : decode cX1_nextBehind 60 = .ok (.invokestatic 31, 3) := by decide +kernel
theorem dX1_nextBehind_63 : decode cX1_nextBehind 63 = .ok (.ifCond .eq 7, 3) := by decide +kernel
theorem dX1_nextBehind_66 : decode cX1_nextBehind 66 = .ok (.iconst 1, 1) := by decide +kernel
theorem dX1_nextBehind_67 : decode cX1_nextBehind 67 = .ok (.goto 5, 3) := by decide +kernel
theorem dX1_nextBehind_70 : decode cX1_nextBehind 70 = .ok (.bipush 6, 2) := by decide +kernel
theorem dX1_nextBehind_72 : decode cX1_nextBehind 72 = .ok (.ireturn, 1) := by decide +kernel
theorem dX1_nextBehind_73 : decode cX1_nextBehind 73 = .ok (.iload_n 1, 1) := by decide +kernel
theorem dX1_nextBehind_74 : decode cX1_nextBehind 74 = .ok (.invokestatic 35, 3) := by decide +kernel
theorem dX1_nextBehind_77 : decode cX1_nextBehind 77 = .ok (.ireturn, 1) := by decide +kernel
theorem dX1_nextBehind_78 : decode cX1_nextBehind 78 = .ok (.iload_n 1, 1) := by decide +kernel
theorem dX1_nextBehind_79 : decode cX1_nextBehind 79 = .ok (.bipush 48, 2) := by decide +kernel
theorem dX1_nextBehind_81 : decode cX1_nextBehind 81 = .ok (.bipush 55, 2) := by decide +kernel
theorem dX1_nextBehind_83 : decode cX1_nextBehind 83 = .ok (.invokestatic 27, 3) := by decide +kernel
theorem dX1_nextBehind_86 : decode cX1_nextBehind 86 = .ok (.ifCond .eq 7, 3) := by decide +kernel
theorem dX1_nextBehind_89 : decode cX1_nextBehind 89 = .ok (.iconst 0, 1) := by decide +kernel
theorem dX1_nextBehind_90 : decode cX1_nextBehind 90 = .ok (.goto 5, 3) := by decide +kernel
theorem dX1_nextBehind_93 : decode cX1_nextBehind 93 = .ok (.bipush 6, 2) := by decide +kernel
theorem dX1_nextBehind_95 : decode cX1_nextBehind 95 = .ok (.ireturn, 1) := by decide +kernel
theorem dX1_nextBehind_96 : decode cX1_nextBehind 96 = .ok (.iload_n 1, 1) := by decide +kernel
theorem dX1_nextBehind_97 : decode cX1_nextBehind 97 = .ok (.invokestatic 31, 3) := by decide +kernel
theorem dX1_nextBehind_100 : decode cX1_nextBehind 100 = .ok (.ifCond .eq 7, 3) := by decide +kernel
theorem dX1_nextBehind_103 : decode cX1_nextBehind 103 = .ok (.iconst 0, 1) := by decide +kernel
theorem dX1_nextBehind_104 : decode cX1_nextBehind 104 = .ok (.goto 5, 3) := by decide +kernel
theorem dX1_nextBehind_107 : decode cX1_nextBehind 107 = .ok (.bipush 6, 2) := by decide +kernel
theorem dX1_nextBehind_109 : decode cX1_nextBehind 109 = .ok (.ireturn, 1) := by decide +kernel
theorem dX1_nextBehindFirst_0 : decode cX1_nextBehindFirst 0 = .ok (.iload_n 0, 1) := by decide +kernel
theorem dX1_nextBehindFirst_1 : decode cX1_nextBehindFirst 1 = .ok (.lookupswitch 41 #[(33, 39), (43, 37), (46, 35)], 35) := by decide +kernel
theorem dX1_nextBehindFirst_36 : decode cX1_nextBehindFirst 36 = .ok (.iconst 0, 1) := by decide +kernel
theorem dX1_nextBehindFirst_37 : decode cX1_nextBehindFirst 37 = .ok (.ireturn, 1) := by decide +kernel
theorem dX1_nextBehindFirst_38 : decode cX1_nextBehindFirst 38 = .ok (.iconst 1, 1) := by decide +kernel
theorem dX1_nextBehindFirst_39 : decode cX1_nextBehindFirst 39 = .ok (.ireturn, 1) := by decide +kernel
theorem dX1_nextBehindFirst_40 : decode cX1_nextBehindFirst 40 = .ok (.iconst 2, 1) := by decide +kernel
theorem dX1_nextBehindFirst_41 : decode cX1_nextBehindFirst 41 = .ok (.ireturn, 1) := by decide +kernel
theorem dX1_nextBehindFirst_42 : decode cX1_nextBehindFirst 42 = .ok (.iload_n 0, 1) := by decide +kernel
theorem dX1_nextBehindFirst_43 : decode cX1_nextBehindFirst 43 = .ok (.invokestatic 31, 3) := by decide +kernel
theorem dX1_nextBehindFirst_46 : decode cX1_nextBehindFirst 46 = .ok (.ifCond .eq 7, 3) := by decide +kernel
theorem dX1_nextBehindFirst_49 : decode cX1_nextBehindFirst 49 = .ok (.iconst 3, 1) := by decide +kernel
theorem dX1_nextBehindFirst_50 : decode cX1_nextBehindFirst 50 = .ok (.goto 5, 3) := by decide +kernel
theorem dX1_nextBehindFirst_53 : decode cX1_nextBehindFirst 53 = .ok (.bipush 6, 2) := by decide +kernel
theorem dX1_nextBehindFirst_55 : decode cX1_nextBehindFirst 55 = .ok (.ireturn, 1) := by decide +kernel
theorem dX1_nextBehindDeed_0 : decode cX1_nextBehindDeed 0 = .ok (.iload_n 0, 1) := by decide +kernel
theorem dX1_nextBehindDeed_1 : decode cX1_nextBehindDeed 1 = .ok (.lookupswitch 49 #[(36, 43), (47, 47), (62, 45), (64, 47)], 43) := by decide +kernel
theorem dX1_nextBehindDeed_44 : decode cX1_nextBehindDeed 44 = .ok (.iconst 4, 1) := by decide +kernel
theorem dX1_nextBehindDeed_45 : decode cX1_nextBehindDeed 45 = .ok (.ireturn, 1) := by decide +kernel
theorem dX1_nextBehindDeed_46 : decode cX1_nextBehindDeed 46 = .ok (.iconst 5, 1) := by decide +kernel
theorem dX1_nextBehindDeed_47 : decode cX1_nextBehindDeed 47 = .ok (.ireturn, 1) := by decide +kernel
theorem dX1_nextBehindDeed_48 : decode cX1_nextBehindDeed 48 = .ok (.iconst 1, 1) := by decide +kernel
theorem dX1_nextBehindDeed_49 : decode cX1_nextBehindDeed 49 = .ok (.ireturn, 1) := by decide +kernel
theorem dX1_nextBehindDeed_50 : decode cX1_nextBehindDeed 50 = .ok (.bipush 6, 2) := by decide +kernel
theorem dX1_nextBehindDeed_52 : decode cX1_nextBehindDeed 52 = .ok (.ireturn, 1) := by decide +kernel
theorem dX1_isLetter_0 : decode cX1_isLetter 0 = .ok (.iload_n 0, 1) := by decide +kernel
theorem dX1_isLetter_1 : decode cX1_isLetter 1 = .ok (.bipush 65, 2) := by decide +kernel
theorem dX1_isLetter_3 : decode cX1_isLetter 3 = .ok (.bipush 70, 2) := by decide +kernel
theorem dX1_isLetter_5 : decode cX1_isLetter 5 = .ok (.invokestatic 27, 3) := by decide +kernel
theorem dX1_isLetter_8 : decode cX1_isLetter 8 = .ok (.ireturn, 1) := by decide +kernel
theorem dX2_init_0 : decode cX2_init 0 = .ok (.aload_n 0, 1) := by decide +kernel
theorem dX2_init_1 : decode cX2_init 1 = .ok (.invokespecial 3, 3) := by decide +kernel
theorem dX2_init_4 : decode cX2_init 4 = .ok (.aload_n 0, 1) := by decide +kernel
theorem dX2_init_5 : decode cX2_init 5 = .ok (.bipush 6, 2) := by decide +kernel
theorem dX2_init_7 : decode cX2_init 7 = .ok (.newarray .int, 2) := by decide +kernel
theorem dX2_init_9 : decode cX2_init 9 = .ok (.putfield 9, 3) := by decide +kernel
theorem dX2_init_12 : decode cX2_init 12 = .ok (.aload_n 0, 1) := by decide +kernel
theorem dX2_init_13 : decode cX2_init 13 = .ok (.bipush 6, 2) := by decide +kernel
theorem dX2_init_15 : decode cX2_init 15 = .ok (.newarray .int, 2) := by decide +kernel
theorem dX2_init_17 : decode cX2_init 17 = .ok (.putfield 15, 3) := by decide +kernel
theorem dX2_init_20 : decode cX2_init 20 = .ok (.aload_n 0, 1) := by decide +kernel
theorem dX2_init_21 : decode cX2_init 21 = .ok (.bipush 6, 2) := by decide +kernel
theorem dX2_init_23 : decode cX2_init 23 = .ok (.bipush 6, 2) := by decide +kernel
theorem dX2_init_25 : decode cX2_init 25 = .ok (.multianewarray 18 2, 4) := by decide +kernel
theorem dX2_init_29 : decode cX2_init 29 = .ok (.putfield 20, 3) := by decide +kernel
theorem dX2_init_32 : decode cX2_init 32 = .ok (.aload_n 0, 1) := by decide +kernel
theorem dX2_init_33 : decode cX2_init 33 = .ok (.bipush 8, 2) := by decide +kernel
theorem dX2_init_35 : decode cX2_init 35 = .ok (.newarray .int, 2) := by decide +kernel
theorem dX2_init_37 : decode cX2_init 37 = .ok (.putfield 23, 3) := by decide +kernel
theorem dX2_init_40 : decode cX2_init 40 = .ok (.aload_n 0, 1) := by decide +kernel
theorem dX2_init_41 : decode cX2_init 41 = .ok (.bipush 8, 2) := by decide +kernel
theorem dX2_init_43 : decode cX2_init 43 = .ok (.newarray .int, 2) := by decide +kernel
theorem dX2_init_45 : decode cX2_init 45 = .ok (.putfield 26, 3) := by decide +kernel
theorem dX2_init_48 : decode cX2_init 48 = .ok (.iconst 0, 1) := by decide +kernel
theorem dX2_init_49 : decode cX2_init 49 = .ok (.istore_n 1, 1) := by decide +kernel
theorem dX2_init_50 : decode cX2_init 50 = .ok (.iload_n 1, 1) := by decide +kernel
theorem dX2_init_51 : decode cX2_init 51 = .ok (.bipush 6, 2) := by decide +kernel
theorem dX2_init_53 : decode cX2_init 53 = .ok (.if_icmp .ge 25, 3) := by decide +kernel
theorem dX2_init_56 : decode cX2_init 56 = .ok (.aload_n 0, 1) := by decide +kernel
theorem dX2_init_57 : decode cX2_init 57 = .ok (.getfield 9, 3) := by decide +kernel
theorem dX2_init_60 : decode cX2_init 60 = .ok (.iload_n 1, 1) := by decide +kernel
theorem dX2_init_61 : decode cX2_init 61 = .ok (.bipush 100, 2) := by decide +kernel
theorem dX2_init_63 : decode cX2_init 63 = .ok (.iastore, 1) := by decide +kernel
theorem dX2_init_64 : decode cX2_init 64 = .ok (.aload_n 0, 1) := by decide +kernel
theorem dX2_init_65 : decode cX2_init 65 = .ok (.getfield 15, 3) := by decide +kernel
theorem dX2_init_68 : decode cX2_init 68 = .ok (.iload_n 1, 1) := by decide +kernel
theorem dX2_init_69 : decode cX2_init 69 = .ok (.bipush 100, 2) := by decide +kernel
theorem dX2_init_71 : decode cX2_init 71 = .ok (.iastore, 1) := by decide +kernel
theorem dX2_init_72 : decode cX2_init 72 = .ok (.iinc 1 1, 3) := by decide +kernel
theorem dX2_init_75 : decode cX2_init 75 = .ok (.goto (-25), 3) := by decide +kernel
theorem dX2_init_78 : decode cX2_init 78 = .ok (.iconst 0, 1) := by decide +kernel
theorem dX2_init_79 : decode cX2_init 79 = .ok (.istore_n 1, 1) := by decide +kernel
theorem dX2_init_80 : decode cX2_init 80 = .ok (.iload_n 1, 1) := by decide +kernel
theorem dX2_init_81 : decode cX2_init 81 = .ok (.bipush 8, 2) := by decide +kernel
theorem dX2_init_83 : decode cX2_init 83 = .ok (.if_icmp .ge 24, 3) := by decide +kernel
theorem dX2_init_86 : decode cX2_init 86 = .ok (.aload_n 0, 1) := by decide +kernel
theorem dX2_init_87 : decode cX2_init 87 = .ok (.getfield 23, 3) := by decide +kernel
theorem dX2_init_90 : decode cX2_init 90 = .ok (.iload_n 1, 1) := by decide +kernel
theorem dX2_init_91 : decode cX2_init 91 = .ok (.bipush 100, 2) := by decide +kernel
theorem dX2_init_93 : decode cX2_init 93 = .ok (.iastore, 1) := by decide +kernel
theorem dX2_init_94 : decode cX2_init 94 = .ok (.aload_n 0, 1) := by decide +kernel
theorem dX2_init_95 : decode cX2_init 95 = .ok (.getfield 26, 3) := by decide +kernel
theorem dX2_init_98 : decode cX2_init 98 = .ok (.iload_n 1, 1) := by decide +kernel
theorem dX2_init_99 : decode cX2_init 99 = .ok (.iconst (-1), 1) := by decide +kernel
theorem dX2_init_100 : decode cX2_init 100 = .ok (.iastore, 1) := by decide +kernel
theorem dX2_init_101 : decode cX2_init 101 = .ok (.iinc 1 1, 3) := by decide +kernel
theorem dX2_init_104 : decode cX2_init 104 = .ok (.goto (-24), 3) := by decide +kernel
theorem dX2_init_107 : decode cX2_init 107 = .ok (.return_, 1) := by decide +kernel
theorem dX2_copyFrom_0 : decode cX2_copyFrom 0 = .ok (.aload_n 1, 1) := by decide +kernel
theorem dX2_copyFrom_1 : decode cX2_copyFrom 1 = .ok (.getfield 9, 3) := by decide +kernel
theorem dX2_copyFrom_4 : decode cX2_copyFrom 4 = .ok (.iconst 0, 1) := by decide +kernel
theorem dX2_copyFrom_5 : decode cX2_copyFrom 5 = .ok (.aload_n 0, 1) := by decide +kernel
theorem dX2_copyFrom_6 : decode cX2_copyFrom 6 = .ok (.getfield 9, 3) := by decide +kernel
theorem dX2_copyFrom_9 : decode cX2_copyFrom 9 = .ok (.iconst 0, 1) := by decide +kernel
theorem dX2_copyFrom_10 : decode cX2_copyFrom 10 = .ok (.bipush 6, 2) := by decide +kernel
theorem dX2_copyFrom_12 : decode cX2_copyFrom 12 = .ok (.invokestatic 29, 3) := by decide +kernel
theorem dX2_copyFrom_15 : decode cX2_copyFrom 15 = .ok (.aload_n 1, 1) := by decide +kernel
theorem dX2_copyFrom_16 : decode cX2_copyFrom 16 = .ok (.getfield 15, 3) := by decide +kernel
theorem dX2_copyFrom_19 : decode cX2_copyFrom 19 = .ok (.iconst 0, 1) := by decide +kernel
theorem dX2_copyFrom_20 : decode cX2_copyFrom 20 = .ok (.aload_n 0, 1) := by decide +kernel
theorem dX2_copyFrom_21 : decode cX2_copyFrom 21 = .ok (.getfield 15, 3) := by decide +kernel
theorem dX2_copyFrom_24 : decode cX2_copyFrom 24 = .ok (.iconst 0, 1) := by decide +kernel
theorem dX2_copyFrom_25 : decode cX2_copyFrom 25 = .ok (.bipush 6, 2) := by decide +kernel
theorem dX2_copyFrom_27 : decode cX2_copyFrom 27 = .ok (.invokestatic 29, 3) := by decide +kernel
theorem dX2_copyFrom_30 : decode cX2_copyFrom 30 = .ok (.iconst 0, 1) := by decide +kernel
theorem dX2_copyFrom_31 : decode cX2_copyFrom 31 = .ok (.istore_n 2, 1) := by decide +kernel
theorem dX2_copyFrom_32 : decode cX2_copyFrom 32 = .ok (.iload_n 2, 1) := by decide +kernel
theorem dX2_copyFrom_33 : decode cX2_copyFrom 33 = .ok (.bipush 6, 2) := by decide +kernel
theorem dX2_copyFrom_35 : decode cX2_copyFrom 35 = .ok (.if_icmp .ge 28, 3) := by decide +kernel
theorem dX2_copyFrom_38 : decode cX2_copyFrom 38 = .ok (.aload_n 1, 1) := by decide +kernel
theorem dX2_copyFrom_39 : decode cX2_copyFrom 39 = .ok (.getfield 20, 3) := by decide +kernel
theorem dX2_copyFrom_42 : decode cX2_copyFrom 42 = .ok (.iload_n 2, 1) := by decide +kernel
theorem dX2_copyFrom_43 : decode cX2_copyFrom 43 = .ok (.aaload, 1) := by decide +kernel
theorem dX2_copyFrom_44 : decode cX2_copyFrom 44 = .ok (.iconst 0, 1) := by decide +kernel
theorem dX2_copyFrom_45 : decode cX2_copyFrom 45 = .ok (.aload_n 0, 1) := by decide +kernel
theorem dX2_copyFrom_46 : decode cX2_copyFrom 46 = .ok (.getfield 20, 3) := by decide +kernel
theorem dX2_copyFrom_49 : decode cX2_copyFrom 49 = .ok (.iload_n 2, 1) := by decide +kernel
theorem dX2_copyFrom_50 : decode cX2_copyFrom 50 = .ok (.aaload, 1) := by decide +kernel
theorem dX2_copyFrom_51 : decode cX2_copyFrom 51 = .ok (.iconst 0, 1) := by decide +kernel
theorem dX2_copyFrom_52 : decode cX2_copyFrom 52 = .ok (.bipush 6, 2) := by decide +kernel
theorem dX2_copyFrom_54 : decode cX2_copyFrom 54 = .ok (.invokestatic 29, 3) := by decide +kernel
theorem dX2_copyFrom_57 : decode cX2_copyFrom 57 = .ok (.iinc 2 1, 3) := by decide +kernel
theorem dX2_copyFrom_60 : decode cX2_copyFrom 60 = .ok (.goto (-28), 3) := by decide +kernel
theorem dX2_copyFrom_63 : decode cX2_copyFrom 63 = .ok (.aload_n 1, 1) := by decide +kernel
theorem dX2_copyFrom_64 : decode cX2_copyFrom 64 = .ok (.getfield 23, 3) := by decide +kernel
theorem dX2_copyFrom_67 : decode cX2_copyFrom 67 = .ok (.iconst 0, 1) := by decide +kernel
theorem dX2_copyFrom_68 : decode cX2_copyFrom 68 = .ok (.aload_n 0, 1) := by decide +kernel
theorem dX2_copyFrom_69 : decode cX2_copyFrom 69 = .ok (.getfield 23, 3) := by decide +kernel
theorem dX2_copyFrom_72 : decode cX2_copyFrom 72 = .ok (.iconst 0, 1) := by decide +kernel
theorem dX2_copyFrom_73 : decode cX2_copyFrom 73 = .ok (.bipush 8, 2) := by decide +kernel
theorem dX2_copyFrom_75 : decode cX2_copyFrom 75 = .ok (.invokestatic 29, 3) := by decide +kernel
theorem dX2_copyFrom_78 : decode cX2_copyFrom 78 = .ok (.aload_n 1, 1) := by decide +kernel
theorem dX2_copyFrom_79 : decode cX2_copyFrom 79 = .ok (.getfield 26, 3) := by decide +kernel
theorem dX2_copyFrom_82 : decode cX2_copyFrom 82 = .ok (.iconst 0, 1) := by decide +kernel
theorem dX2_copyFrom_83 : decode cX2_copyFrom 83 = .ok (.aload_n 0, 1) := by decide +kernel
theorem dX2_copyFrom_84 : decode cX2_copyFrom 84 = .ok (.getfield 26, 3) := by decide +kernel
theorem dX2_copyFrom_87 : decode cX2_copyFrom 87 = .ok (.iconst 0, 1) := by decide +kernel
theorem dX2_copyFrom_88 : decode cX2_copyFrom 88 = .ok (.bipush 8, 2) := by decide +kernel
theorem dX2_copyFrom_90 : decode cX2_copyFrom 90 = .ok (.invokestatic 29, 3) := by decide +kernel
theorem dX2_copyFrom_93 : decode cX2_copyFrom 93 = .ok (.aload_n 0, 1) := by decide +kernel
theorem dX2_copyFrom_94 : decode cX2_copyFrom 94 = .ok (.aload_n 1, 1) := by decide +kernel
theorem dX2_copyFrom_95 : decode cX2_copyFrom 95 = .ok (.getfield 35, 3) := by decide +kernel
theorem dX2_copyFrom_98 : decode cX2_copyFrom 98 = .ok (.putfield 35, 3) := by decide +kernel
theorem dX2_copyFrom_101 : decode cX2_copyFrom 101 = .ok (.aload_n 0, 1) := by decide +kernel
theorem dX2_copyFrom_102 : decode cX2_copyFrom 102 = .ok (.aload_n 1, 1) := by decide +kernel
theorem dX2_copyFrom_103 : decode cX2_copyFrom 103 = .ok (.getfield 39, 3) := by decide +kernel
theorem dX2_copyFrom_106 : decode cX2_copyFrom 106 = .ok (.putfield 39, 3) := by decide +kernel
theorem dX2_copyFrom_109 : decode cX2_copyFrom 109 = .ok (.aload_n 0, 1) := by decide +kernel
theorem dX2_copyFrom_110 : decode cX2_copyFrom 110 = .ok (.aload_n 1, 1) := by decide +kernel
theorem dX2_copyFrom_111 : decode cX2_copyFrom 111 = .ok (.getfield 42, 3) := by decide +kernel
theorem dX2_copyFrom_114 : decode cX2_copyFrom 114 = .ok (.putfield 42, 3) := by decide +kernel
theorem dX2_copyFrom_117 : decode cX2_copyFrom 117 = .ok (.aload_n 0, 1) := by decide +kernel
theorem dX2_copyFrom_118 : decode cX2_copyFrom 118 = .ok (.aload_n 1, 1) := by decide +kernel
theorem dX2_copyFrom_119 : decode cX2_copyFrom 119 = .ok (.getfield 45, 3) := by decide +kernel
theorem dX2_copyFrom_122 : decode cX2_copyFrom 122 = .ok (.putfield 45, 3) := by decide +kernel
theorem dX2_copyFrom_125 : decode cX2_copyFrom 125 = .ok (.return_, 1) := by decide +kernel
theorem dX2_notes_0 : decode cX2_notes 0 = .ok (.aload_n 0, 1) := by decide +kernel
theorem dX2_notes_1 : decode cX2_notes 1 = .ok (.getfield 35, 3) := by decide +kernel
theorem dX2_notes_4 : decode cX2_notes 4 = .ok (.istore_n 1, 1) := by decide +kernel
theorem dX2_notes_5 : decode cX2_notes 5 = .ok (.iconst 0, 1) := by decide +kernel
theorem dX2_notes_6 : decode cX2_notes 6 = .ok (.istore_n 2, 1) := by decide +kernel
theorem dX2_notes_7 : decode cX2_notes 7 = .ok (.iload_n 2, 1) := by decide +kernel
theorem dX2_notes_8 : decode cX2_notes 8 = .ok (.bipush 6, 2) := by decide +kernel
theorem dX2_notes_10 : decode cX2_notes 10 = .ok (.if_icmp .ge 18, 3) := by decide +kernel
theorem dX2_notes_13 : decode cX2_notes 13 = .ok (.iload_n 1, 1) := by decide +kernel
theorem dX2_notes_14 : decode cX2_notes 14 = .ok (.aload_n 0, 1) := by decide +kernel
theorem dX2_notes_15 : decode cX2_notes 15 = .ok (.getfield 9, 3) := by decide +kernel
theorem dX2_notes_18 : decode cX2_notes 18 = .ok (.iload_n 2, 1) := by decide +kernel
theorem dX2_notes_19 : decode cX2_notes 19 = .ok (.iaload, 1) := by decide +kernel
theorem dX2_notes_20 : decode cX2_notes 20 = .ok (.iadd, 1) := by decide +kernel
theorem dX2_notes_21 : decode cX2_notes 21 = .ok (.istore_n 1, 1) := by decide +kernel
theorem dX2_notes_22 : decode cX2_notes 22 = .ok (.iinc 2 1, 3) := by decide +kernel
theorem dX2_notes_25 : decode cX2_notes 25 = .ok (.goto (-18), 3) := by decide +kernel
theorem dX2_notes_28 : decode cX2_notes 28 = .ok (.iload_n 1, 1) := by decide +kernel
theorem dX2_notes_29 : decode cX2_notes 29 = .ok (.ireturn, 1) := by decide +kernel
theorem dX2_land_0 : decode cX2_land 0 = .ok (.iconst 0, 1) := by decide +kernel
theorem dX2_land_1 : decode cX2_land 1 = .ok (.istore_n 1, 1) := by decide +kernel
theorem dX2_land_2 : decode cX2_land 2 = .ok (.iconst 0, 1) := by decide +kernel
theorem dX2_land_3 : decode cX2_land 3 = .ok (.istore_n 2, 1) := by decide +kernel
theorem dX2_land_4 : decode cX2_land 4 = .ok (.iload_n 2, 1) := by decide +kernel
theorem dX2_land_5 : decode cX2_land 5 = .ok (.bipush 8, 2) := by decide +kernel
theorem dX2_land_7 : decode cX2_land 7 = .ok (.if_icmp .ge 28, 3) := by decide +kernel
theorem dX2_land_10 : decode cX2_land 10 = .ok (.aload_n 0, 1) := by decide +kernel
theorem dX2_land_11 : decode cX2_land 11 = .ok (.getfield 26, 3) := by decide +kernel
theorem dX2_land_14 : decode cX2_land 14 = .ok (.iload_n 2, 1) := by decide +kernel
theorem dX2_land_15 : decode cX2_land 15 = .ok (.iaload, 1) := by decide +kernel
theorem dX2_land_16 : decode cX2_land 16 = .ok (.iconst (-1), 1) := by decide +kernel
theorem dX2_land_17 : decode cX2_land 17 = .ok (.if_icmp .ne 12, 3) := by decide +kernel
theorem dX2_land_20 : decode cX2_land 20 = .ok (.iload_n 1, 1) := by decide +kernel
theorem dX2_land_21 : decode cX2_land 21 = .ok (.aload_n 0, 1) := by decide +kernel
theorem dX2_land_22 : decode cX2_land 22 = .ok (.getfield 23, 3) := by decide +kernel
theorem dX2_land_25 : decode cX2_land 25 = .ok (.iload_n 2, 1) := by decide +kernel
theorem dX2_land_26 : decode cX2_land 26 = .ok (.iaload, 1) := by decide +kernel
theorem dX2_land_27 : decode cX2_land 27 = .ok (.iadd, 1) := by decide +kernel
theorem dX2_land_28 : decode cX2_land 28 = .ok (.istore_n 1, 1) := by decide +kernel
theorem dX2_land_29 : decode cX2_land 29 = .ok (.iinc 2 1, 3) := by decide +kernel
theorem dX2_land_32 : decode cX2_land 32 = .ok (.goto (-28), 3) := by decide +kernel
theorem dX2_land_35 : decode cX2_land 35 = .ok (.iload_n 1, 1) := by decide +kernel
theorem dX2_land_36 : decode cX2_land 36 = .ok (.ireturn, 1) := by decide +kernel
theorem dX2_rate_0 : decode cX2_rate 0 = .ok (.aload_n 0, 1) := by decide +kernel
theorem dX2_rate_1 : decode cX2_rate 1 = .ok (.invokevirtual 48, 3) := by decide +kernel
theorem dX2_rate_4 : decode cX2_rate 4 = .ok (.aload_n 0, 1) := by decide +kernel
theorem dX2_rate_5 : decode cX2_rate 5 = .ok (.invokevirtual 52, 3) := by decide +kernel
theorem dX2_rate_8 : decode cX2_rate 8 = .ok (.invokestatic 55, 3) := by decide +kernel
theorem dX2_rate_11 : decode cX2_rate 11 = .ok (.ireturn, 1) := by decide +kernel
theorem dX2_priceOf_0 : decode cX2_priceOf 0 = .ok (.iconst 0, 1) := by decide +kernel
theorem dX2_priceOf_1 : decode cX2_priceOf 1 = .ok (.istore_n 2, 1) := by decide +kernel
theorem dX2_priceOf_2 : decode cX2_priceOf 2 = .ok (.iconst 0, 1) := by decide +kernel
theorem dX2_priceOf_3 : decode cX2_priceOf 3 = .ok (.istore_n 3, 1) := by decide +kernel
theorem dX2_priceOf_4 : decode cX2_priceOf 4 = .ok (.iload_n 3, 1) := by decide +kernel
theorem dX2_priceOf_5 : decode cX2_priceOf 5 = .ok (.bipush 8, 2) := by decide +kernel
theorem dX2_priceOf_7 : decode cX2_priceOf 7 = .ok (.if_icmp .ge 27, 3) := by decide +kernel
theorem dX2_priceOf_10 : decode cX2_priceOf 10 = .ok (.iload_n 1, 1) := by decide +kernel
theorem dX2_priceOf_11 : decode cX2_priceOf 11 = .ok (.iload_n 3, 1) := by decide +kernel
theorem dX2_priceOf_12 : decode cX2_priceOf 12 = .ok (.ishr, 1) := by decide +kernel
theorem dX2_priceOf_13 : decode cX2_priceOf 13 = .ok (.iconst 1, 1) := by decide +kernel
theorem dX2_priceOf_14 : decode cX2_priceOf 14 = .ok (.iand, 1) := by decide +kernel
theorem dX2_priceOf_15 : decode cX2_priceOf 15 = .ok (.iconst 1, 1) := by decide +kernel
theorem dX2_priceOf_16 : decode cX2_priceOf 16 = .ok (.if_icmp .ne 12, 3) := by decide +kernel
theorem dX2_priceOf_19 : decode cX2_priceOf 19 = .ok (.iload_n 2, 1) := by decide +kernel
theorem dX2_priceOf_20 : decode cX2_priceOf 20 = .ok (.aload_n 0, 1) := by decide +kernel
theorem dX2_priceOf_21 : decode cX2_priceOf 21 = .ok (.getfield 23, 3) := by decide +kernel
theorem dX2_priceOf_24 : decode cX2_priceOf 24 = .ok (.iload_n 3, 1) := by decide +kernel
theorem dX2_priceOf_25 : decode cX2_priceOf 25 = .ok (.iaload, 1) := by decide +kernel
theorem dX2_priceOf_26 : decode cX2_priceOf 26 = .ok (.iadd, 1) := by decide +kernel
theorem dX2_priceOf_27 : decode cX2_priceOf 27 = .ok (.istore_n 2, 1) := by decide +kernel
theorem dX2_priceOf_28 : decode cX2_priceOf 28 = .ok (.iinc 3 1, 3) := by decide +kernel
theorem dX2_priceOf_31 : decode cX2_priceOf 31 = .ok (.goto (-27), 3) := by decide +kernel
theorem dX2_priceOf_34 : decode cX2_priceOf 34 = .ok (.iload_n 2, 1) := by decide +kernel
theorem dX2_priceOf_35 : decode cX2_priceOf 35 = .ok (.ireturn, 1) := by decide +kernel
theorem dX2_lotsOf_0 : decode cX2_lotsOf 0 = .ok (.iconst 0, 1) := by decide +kernel
theorem dX2_lotsOf_1 : decode cX2_lotsOf 1 = .ok (.istore_n 2, 1) := by decide +kernel
theorem dX2_lotsOf_2 : decode cX2_lotsOf 2 = .ok (.iconst 0, 1) := by decide +kernel
theorem dX2_lotsOf_3 : decode cX2_lotsOf 3 = .ok (.istore_n 3, 1) := by decide +kernel
theorem dX2_lotsOf_4 : decode cX2_lotsOf 4 = .ok (.iload_n 3, 1) := by decide +kernel
theorem dX2_lotsOf_5 : decode cX2_lotsOf 5 = .ok (.bipush 8, 2) := by decide +kernel
theorem dX2_lotsOf_7 : decode cX2_lotsOf 7 = .ok (.if_icmp .ge 25, 3) := by decide +kernel
theorem dX2_lotsOf_10 : decode cX2_lotsOf 10 = .ok (.aload_n 0, 1) := by decide +kernel
theorem dX2_lotsOf_11 : decode cX2_lotsOf 11 = .ok (.getfield 26, 3) := by decide +kernel
theorem dX2_lotsOf_14 : decode cX2_lotsOf 14 = .ok (.iload_n 3, 1) := by decide +kernel
theorem dX2_lotsOf_15 : decode cX2_lotsOf 15 = .ok (.iaload, 1) := by decide +kernel
theorem dX2_lotsOf_16 : decode cX2_lotsOf 16 = .ok (.iload_n 1, 1) := by decide +kernel
theorem dX2_lotsOf_17 : decode cX2_lotsOf 17 = .ok (.if_icmp .ne 9, 3) := by decide +kernel
theorem dX2_lotsOf_20 : decode cX2_lotsOf 20 = .ok (.iload_n 2, 1) := by decide +kernel
theorem dX2_lotsOf_21 : decode cX2_lotsOf 21 = .ok (.iconst 1, 1) := by decide +kernel
theorem dX2_lotsOf_22 : decode cX2_lotsOf 22 = .ok (.iload_n 3, 1) := by decide +kernel
theorem dX2_lotsOf_23 : decode cX2_lotsOf 23 = .ok (.ishl, 1) := by decide +kernel
theorem dX2_lotsOf_24 : decode cX2_lotsOf 24 = .ok (.ior, 1) := by decide +kernel
theorem dX2_lotsOf_25 : decode cX2_lotsOf 25 = .ok (.istore_n 2, 1) := by decide +kernel
theorem dX2_lotsOf_26 : decode cX2_lotsOf 26 = .ok (.iinc 3 1, 3) := by decide +kernel
theorem dX2_lotsOf_29 : decode cX2_lotsOf 29 = .ok (.goto (-25), 3) := by decide +kernel
theorem dX2_lotsOf_32 : decode cX2_lotsOf 32 = .ok (.iload_n 2, 1) := by decide +kernel
theorem dX2_lotsOf_33 : decode cX2_lotsOf 33 = .ok (.ireturn, 1) := by decide +kernel
theorem dX2_owesInAll_0 : decode cX2_owesInAll 0 = .ok (.iconst 0, 1) := by decide +kernel
theorem dX2_owesInAll_1 : decode cX2_owesInAll 1 = .ok (.istore_n 2, 1) := by decide +kernel
theorem dX2_owesInAll_2 : decode cX2_owesInAll 2 = .ok (.iconst 0, 1) := by decide +kernel
theorem dX2_owesInAll_3 : decode cX2_owesInAll 3 = .ok (.istore_n 3, 1) := by decide +kernel
theorem dX2_owesInAll_4 : decode cX2_owesInAll 4 = .ok (.iload_n 3, 1) := by decide +kernel
theorem dX2_owesInAll_5 : decode cX2_owesInAll 5 = .ok (.bipush 6, 2) := by decide +kernel
theorem dX2_owesInAll_7 : decode cX2_owesInAll 7 = .ok (.if_icmp .ge 20, 3) := by decide +kernel
theorem dX2_owesInAll_10 : decode cX2_owesInAll 10 = .ok (.iload_n 2, 1) := by decide +kernel
theorem dX2_owesInAll_11 : decode cX2_owesInAll 11 = .ok (.aload_n 0, 1) := by decide +kernel
theorem dX2_owesInAll_12 : decode cX2_owesInAll 12 = .ok (.getfield 20, 3) := by decide +kernel
theorem dX2_owesInAll_15 : decode cX2_owesInAll 15 = .ok (.iload_n 1, 1) := by decide +kernel
theorem dX2_owesInAll_16 : decode cX2_owesInAll 16 = .ok (.aaload, 1) := by decide +kernel
theorem dX2_owesInAll_17 : decode cX2_owesInAll 17 = .ok (.iload_n 3, 1) := by decide +kernel
theorem dX2_owesInAll_18 : decode cX2_owesInAll 18 = .ok (.iaload, 1) := by decide +kernel
theorem dX2_owesInAll_19 : decode cX2_owesInAll 19 = .ok (.iadd, 1) := by decide +kernel
theorem dX2_owesInAll_20 : decode cX2_owesInAll 20 = .ok (.istore_n 2, 1) := by decide +kernel
theorem dX2_owesInAll_21 : decode cX2_owesInAll 21 = .ok (.iinc 3 1, 3) := by decide +kernel
theorem dX2_owesInAll_24 : decode cX2_owesInAll 24 = .ok (.goto (-20), 3) := by decide +kernel
theorem dX2_owesInAll_27 : decode cX2_owesInAll 27 = .ok (.iload_n 2, 1) := by decide +kernel
theorem dX2_owesInAll_28 : decode cX2_owesInAll 28 = .ok (.ireturn, 1) := by decide +kernel
theorem dX2_ofOne_0 : decode cX2_ofOne 0 = .ok (.iload_n 2, 1) := by decide +kernel
theorem dX2_ofOne_1 : decode cX2_ofOne 1 = .ok (.tableswitch 47 0 2 #[27, 34, 41], 27) := by decide +kernel
theorem dX2_ofOne_28 : decode cX2_ofOne 28 = .ok (.aload_n 0, 1) := by decide +kernel
theorem dX2_ofOne_29 : decode cX2_ofOne 29 = .ok (.getfield 9, 3) := by decide +kernel
theorem dX2_ofOne_32 : decode cX2_ofOne 32 = .ok (.iload_n 1, 1) := by decide +kernel
theorem dX2_ofOne_33 : decode cX2_ofOne 33 = .ok (.iaload, 1) := by decide +kernel
theorem dX2_ofOne_34 : decode cX2_ofOne 34 = .ok (.ireturn, 1) := by decide +kernel
theorem dX2_ofOne_35 : decode cX2_ofOne 35 = .ok (.aload_n 0, 1) := by decide +kernel
theorem dX2_ofOne_36 : decode cX2_ofOne 36 = .ok (.getfield 15, 3) := by decide +kernel
theorem dX2_ofOne_39 : decode cX2_ofOne 39 = .ok (.iload_n 1, 1) := by decide +kernel
theorem dX2_ofOne_40 : decode cX2_ofOne 40 = .ok (.iaload, 1) := by decide +kernel
theorem dX2_ofOne_41 : decode cX2_ofOne 41 = .ok (.ireturn, 1) := by decide +kernel
theorem dX2_ofOne_42 : decode cX2_ofOne 42 = .ok (.aload_n 0, 1) := by decide +kernel
theorem dX2_ofOne_43 : decode cX2_ofOne 43 = .ok (.iload_n 1, 1) := by decide +kernel
theorem dX2_ofOne_44 : decode cX2_ofOne 44 = .ok (.invokevirtual 59, 3) := by decide +kernel
theorem dX2_ofOne_47 : decode cX2_ofOne 47 = .ok (.ireturn, 1) := by decide +kernel
theorem dX2_ofOne_48 : decode cX2_ofOne 48 = .ok (.aload_n 0, 1) := by decide +kernel
theorem dX2_ofOne_49 : decode cX2_ofOne 49 = .ok (.iload_n 1, 1) := by decide +kernel
theorem dX2_ofOne_50 : decode cX2_ofOne 50 = .ok (.invokevirtual 63, 3) := by decide +kernel
theorem dX2_ofOne_53 : decode cX2_ofOne 53 = .ok (.ireturn, 1) := by decide +kernel
theorem dX2_act_0 : decode cX2_act 0 = .ok (.iload_n 1, 1) := by decide +kernel
theorem dX2_act_1 : decode cX2_act 1 = .ok (.tableswitch 96 0 6 #[43, 52, 62, 62, 69, 79, 86], 43) := by decide +kernel
theorem dX2_act_44 : decode cX2_act 44 = .ok (.aload_n 0, 1) := by decide +kernel
theorem dX2_act_45 : decode cX2_act 45 = .ok (.bipush 100, 2) := by decide +kernel
theorem dX2_act_47 : decode cX2_act 47 = .ok (.iload_n 3, 1) := by decide +kernel
theorem dX2_act_48 : decode cX2_act 48 = .ok (.imul, 1) := by decide +kernel
theorem dX2_act_49 : decode cX2_act 49 = .ok (.invokevirtual 66, 3) := by decide +kernel
theorem dX2_act_52 : decode cX2_act 52 = .ok (.ireturn, 1) := by decide +kernel
theorem dX2_act_53 : decode cX2_act 53 = .ok (.aload_n 0, 1) := by decide +kernel
theorem dX2_act_54 : decode cX2_act 54 = .ok (.iload_n 2, 1) := by decide +kernel
theorem dX2_act_55 : decode cX2_act 55 = .ok (.bipush 100, 2) := by decide +kernel
theorem dX2_act_57 : decode cX2_act 57 = .ok (.iload_n 3, 1) := by decide +kernel
theorem dX2_act_58 : decode cX2_act 58 = .ok (.imul, 1) := by decide +kernel
theorem dX2_act_59 : decode cX2_act 59 = .ok (.invokevirtual 69, 3) := by decide +kernel
theorem dX2_act_62 : decode cX2_act 62 = .ok (.ireturn, 1) := by decide +kernel
theorem dX2_act_63 : decode cX2_act 63 = .ok (.aload_n 0, 1) := by decide +kernel
theorem dX2_act_64 : decode cX2_act 64 = .ok (.iload_n 2, 1) := by decide +kernel
theorem dX2_act_65 : decode cX2_act 65 = .ok (.iload_n 3, 1) := by decide +kernel
theorem dX2_act_66 : decode cX2_act 66 = .ok (.invokevirtual 72, 3) := by decide +kernel
theorem dX2_act_69 : decode cX2_act 69 = .ok (.ireturn, 1) := by decide +kernel
theorem dX2_act_70 : decode cX2_act 70 = .ok (.aload_n 0, 1) := by decide +kernel
theorem dX2_act_71 : decode cX2_act 71 = .ok (.iload_n 2, 1) := by decide +kernel
theorem dX2_act_72 : decode cX2_act 72 = .ok (.bipush 10, 2) := by decide +kernel
theorem dX2_act_74 : decode cX2_act 74 = .ok (.iload_n 3, 1) := by decide +kernel
theorem dX2_act_75 : decode cX2_act 75 = .ok (.imul, 1) := by decide +kernel
theorem dX2_act_76 : decode cX2_act 76 = .ok (.invokevirtual 75, 3) := by decide +kernel
theorem dX2_act_79 : decode cX2_act 79 = .ok (.ireturn, 1) := by decide +kernel
theorem dX2_act_80 : decode cX2_act 80 = .ok (.aload_n 0, 1) := by decide +kernel
theorem dX2_act_81 : decode cX2_act 81 = .ok (.iload_n 2, 1) := by decide +kernel
theorem dX2_act_82 : decode cX2_act 82 = .ok (.iload_n 3, 1) := by decide +kernel
theorem dX2_act_83 : decode cX2_act 83 = .ok (.invokevirtual 78, 3) := by decide +kernel
theorem dX2_act_86 : decode cX2_act 86 = .ok (.ireturn, 1) := by decide +kernel
theorem dX2_act_87 : decode cX2_act 87 = .ok (.aload_n 0, 1) := by decide +kernel
theorem dX2_act_88 : decode cX2_act 88 = .ok (.iload_n 2, 1) := by decide +kernel
theorem dX2_act_89 : decode cX2_act 89 = .ok (.bipush 100, 2) := by decide +kernel
theorem dX2_act_91 : decode cX2_act 91 = .ok (.iload_n 3, 1) := by decide +kernel
theorem dX2_act_92 : decode cX2_act 92 = .ok (.imul, 1) := by decide +kernel
theorem dX2_act_93 : decode cX2_act 93 = .ok (.invokevirtual 81, 3) := by decide +kernel
theorem dX2_act_96 : decode cX2_act 96 = .ok (.ireturn, 1) := by decide +kernel
theorem dX2_act_97 : decode cX2_act 97 = .ok (.aload_n 0, 1) := by decide +kernel
theorem dX2_act_98 : decode cX2_act 98 = .ok (.invokevirtual 84, 3) := by decide +kernel
theorem dX2_act_101 : decode cX2_act 101 = .ok (.ireturn, 1) := by decide +kernel
theorem dX2_printed_0 : decode cX2_printed 0 = .ok (.aload_n 0, 1) := by decide +kernel
theorem dX2_printed_1 : decode cX2_printed 1 = .ok (.getfield 35, 3) := by decide +kernel
theorem dX2_printed_4 : decode cX2_printed 4 = .ok (.iload_n 1, 1) := by decide +kernel
theorem dX2_printed_5 : decode cX2_printed 5 = .ok (.iadd, 1) := by decide +kernel
theorem dX2_printed_6 : decode cX2_printed 6 = .ok (.ldc 87, 2) := by decide +kernel
theorem dX2_printed_8 : decode cX2_printed 8 = .ok (.if_icmp .le 5, 3) := by decide +kernel
theorem dX2_printed_11 : decode cX2_printed 11 = .ok (.iconst 5, 1) := by decide +kernel
theorem dX2_printed_12 : decode cX2_printed 12 = .ok (.ireturn, 1) := by decide +kernel
theorem dX2_printed_13 : decode cX2_printed 13 = .ok (.aload_n 0, 1) := by decide +kernel
theorem dX2_printed_14 : decode cX2_printed 14 = .ok (.dup, 1) := by decide +kernel
theorem dX2_printed_15 : decode cX2_printed 15 = .ok (.getfield 35, 3) := by decide +kernel
theorem dX2_printed_18 : decode cX2_printed 18 = .ok (.iload_n 1, 1) := by decide +kernel
theorem dX2_printed_19 : decode cX2_printed 19 = .ok (.iadd, 1) := by decide +kernel
theorem dX2_printed_20 : decode cX2_printed 20 = .ok (.putfield 35, 3) := by decide +kernel
theorem dX2_printed_23 : decode cX2_printed 23 = .ok (.iconst 0, 1) := by decide +kernel
theorem dX2_printed_24 : decode cX2_printed 24 = .ok (.ireturn, 1) := by decide +kernel
theorem dX2_paidByState_0 : decode cX2_paidByState 0 = .ok (.aload_n 0, 1) := by decide +kernel
theorem dX2_paidByState_1 : decode cX2_paidByState 1 = .ok (.getfield 35, 3) := by decide +kernel
theorem dX2_paidByState_4 : decode cX2_paidByState 4 = .ok (.iload_n 2, 1) := by decide +kernel
theorem dX2_paidByState_5 : decode cX2_paidByState 5 = .ok (.if_icmp .ge 5, 3) := by decide +kernel
theorem dX2_paidByState_8 : decode cX2_paidByState 8 = .ok (.iconst 3, 1) := by decide +kernel
theorem dX2_paidByState_9 : decode cX2_paidByState 9 = .ok (.ireturn, 1) := by decide +kernel
theorem dX2_paidByState_10 : decode cX2_paidByState 10 = .ok (.aload_n 0, 1) := by decide +kernel
theorem dX2_paidByState_11 : decode cX2_paidByState 11 = .ok (.getfield 9, 3) := by decide +kernel
theorem dX2_paidByState_14 : decode cX2_paidByState 14 = .ok (.iload_n 1, 1) := by decide +kernel
theorem dX2_paidByState_15 : decode cX2_paidByState 15 = .ok (.iaload, 1) := by decide +kernel
theorem dX2_paidByState_16 : decode cX2_paidByState 16 = .ok (.iload_n 2, 1) := by decide +kernel
theorem dX2_paidByState_17 : decode cX2_paidByState 17 = .ok (.iadd, 1) := by decide +kernel
theorem dX2_paidByState_18 : decode cX2_paidByState 18 = .ok (.sipush 9999, 3) := by decide +kernel
theorem dX2_paidByState_21 : decode cX2_paidByState 21 = .ok (.if_icmp .le 5, 3) := by decide +kernel
theorem dX2_paidByState_24 : decode cX2_paidByState 24 = .ok (.iconst 5, 1) := by decide +kernel
theorem dX2_paidByState_25 : decode cX2_paidByState 25 = .ok (.ireturn, 1) := by decide +kernel
theorem dX2_paidByState_26 : decode cX2_paidByState 26 = .ok (.aload_n 0, 1) := by decide +kernel
theorem dX2_paidByState_27 : decode cX2_paidByState 27 = .ok (.dup, 1) := by decide +kernel
theorem dX2_paidByState_28 : decode cX2_paidByState 28 = .ok (.getfield 35, 3) := by decide +kernel
theorem dX2_paidByState_31 : decode cX2_paidByState 31 = .ok (.iload_n 2, 1) := by decide +kernel
theorem dX2_paidByState_32 : decode cX2_paidByState 32 = .ok (.isub, 1) := by decide +kernel
theorem dX2_paidByState_33 : decode cX2_paidByState 33 = .ok (.putfield 35, 3) := by decide +kernel
theorem dX2_paidByState_36 : decode cX2_paidByState 36 = .ok (.aload_n 0, 1) := by decide +kernel
theorem dX2_paidByState_37 : decode cX2_paidByState 37 = .ok (.getfield 9, 3) := by decide +kernel
theorem dX2_paidByState_40 : decode cX2_paidByState 40 = .ok (.iload_n 1, 1) := by decide +kernel
theorem dX2_paidByState_41 : decode cX2_paidByState 41 = .ok (.dup2, 1) := by decide +kernel
theorem dX2_paidByState_42 : decode cX2_paidByState 42 = .ok (.iaload, 1) := by decide +kernel
theorem dX2_paidByState_43 : decode cX2_paidByState 43 = .ok (.iload_n 2, 1) := by decide +kernel
theorem dX2_paidByState_44 : decode cX2_paidByState 44 = .ok (.iadd, 1) := by decide +kernel
theorem dX2_paidByState_45 : decode cX2_paidByState 45 = .ok (.iastore, 1) := by decide +kernel
theorem dX2_paidByState_46 : decode cX2_paidByState 46 = .ok (.iconst 0, 1) := by decide +kernel
theorem dX2_paidByState_47 : decode cX2_paidByState 47 = .ok (.ireturn, 1) := by decide +kernel
theorem dX2_bought_0 : decode cX2_bought 0 = .ok (.aload_n 0, 1) := by decide +kernel
theorem dX2_bought_1 : decode cX2_bought 1 = .ok (.getfield 26, 3) := by decide +kernel
theorem dX2_bought_4 : decode cX2_bought 4 = .ok (.iload_n 2, 1) := by decide +kernel
theorem dX2_bought_5 : decode cX2_bought 5 = .ok (.iaload, 1) := by decide +kernel
theorem dX2_bought_6 : decode cX2_bought 6 = .ok (.iconst (-1), 1) := by decide +kernel
theorem dX2_bought_7 : decode cX2_bought 7 = .ok (.if_icmp .eq 5, 3) := by decide +kernel
theorem dX2_bought_10 : decode cX2_bought 10 = .ok (.iconst 2, 1) := by decide +kernel
theorem dX2_bought_11 : decode cX2_bought 11 = .ok (.ireturn, 1) := by decide +kernel
theorem dX2_bought_12 : decode cX2_bought 12 = .ok (.aload_n 0, 1) := by decide +kernel
theorem dX2_bought_13 : decode cX2_bought 13 = .ok (.getfield 9, 3) := by decide +kernel
theorem dX2_bought_16 : decode cX2_bought 16 = .ok (.iload_n 1, 1) := by decide +kernel
theorem dX2_bought_17 : decode cX2_bought 17 = .ok (.iaload, 1) := by decide +kernel
theorem dX2_bought_18 : decode cX2_bought 18 = .ok (.aload_n 0, 1) := by decide +kernel
theorem dX2_bought_19 : decode cX2_bought 19 = .ok (.getfield 23, 3) := by decide +kernel
theorem dX2_bought_22 : decode cX2_bought 22 = .ok (.iload_n 2, 1) := by decide +kernel
theorem dX2_bought_23 : decode cX2_bought 23 = .ok (.iaload, 1) := by decide +kernel
theorem dX2_bought_24 : decode cX2_bought 24 = .ok (.if_icmp .ge 5, 3) := by decide +kernel
theorem dX2_bought_27 : decode cX2_bought 27 = .ok (.iconst 3, 1) := by decide +kernel
theorem dX2_bought_28 : decode cX2_bought 28 = .ok (.ireturn, 1) := by decide +kernel
theorem dX2_bought_29 : decode cX2_bought 29 = .ok (.aload_n 0, 1) := by decide +kernel
theorem dX2_bought_30 : decode cX2_bought 30 = .ok (.getfield 9, 3) := by decide +kernel
theorem dX2_bought_33 : decode cX2_bought 33 = .ok (.iload_n 1, 1) := by decide +kernel
theorem dX2_bought_34 : decode cX2_bought 34 = .ok (.dup2, 1) := by decide +kernel
theorem dX2_bought_35 : decode cX2_bought 35 = .ok (.iaload, 1) := by decide +kernel
theorem dX2_bought_36 : decode cX2_bought 36 = .ok (.aload_n 0, 1) := by decide +kernel
theorem dX2_bought_37 : decode cX2_bought 37 = .ok (.getfield 23, 3) := by decide +kernel
theorem dX2_bought_40 : decode cX2_bought 40 = .ok (.iload_n 2, 1) := by decide +kernel
theorem dX2_bought_41 : decode cX2_bought 41 = .ok (.iaload, 1) := by decide +kernel
theorem dX2_bought_42 : decode cX2_bought 42 = .ok (.isub, 1) := by decide +kernel
theorem dX2_bought_43 : decode cX2_bought 43 = .ok (.iastore, 1) := by decide +kernel
theorem dX2_bought_44 : decode cX2_bought 44 = .ok (.aload_n 0, 1) := by decide +kernel
theorem dX2_bought_45 : decode cX2_bought 45 = .ok (.dup, 1) := by decide +kernel
theorem dX2_bought_46 : decode cX2_bought 46 = .ok (.getfield 42, 3) := by decide +kernel
theorem dX2_bought_49 : decode cX2_bought 49 = .ok (.aload_n 0, 1) := by decide +kernel
theorem dX2_bought_50 : decode cX2_bought 50 = .ok (.getfield 23, 3) := by decide +kernel
theorem dX2_bought_53 : decode cX2_bought 53 = .ok (.iload_n 2, 1) := by decide +kernel
theorem dX2_bought_54 : decode cX2_bought 54 = .ok (.iaload, 1) := by decide +kernel
theorem dX2_bought_55 : decode cX2_bought 55 = .ok (.iadd, 1) := by decide +kernel
theorem dX2_bought_56 : decode cX2_bought 56 = .ok (.putfield 42, 3) := by decide +kernel
theorem dX2_bought_59 : decode cX2_bought 59 = .ok (.aload_n 0, 1) := by decide +kernel
theorem dX2_bought_60 : decode cX2_bought 60 = .ok (.getfield 26, 3) := by decide +kernel
theorem dX2_bought_63 : decode cX2_bought 63 = .ok (.iload_n 2, 1) := by decide +kernel
theorem dX2_bought_64 : decode cX2_bought 64 = .ok (.iload_n 1, 1) := by decide +kernel
theorem dX2_bought_65 : decode cX2_bought 65 = .ok (.iastore, 1) := by decide +kernel
theorem dX2_bought_66 : decode cX2_bought 66 = .ok (.iconst 0, 1) := by decide +kernel
theorem dX2_bought_67 : decode cX2_bought 67 = .ok (.ireturn, 1) := by decide +kernel
theorem dX2_exchanged_0 : decode cX2_exchanged 0 = .ok (.aload_n 0, 1) := by decide +kernel
theorem dX2_exchanged_1 : decode cX2_exchanged 1 = .ok (.getfield 9, 3) := by decide +kernel
theorem dX2_exchanged_4 : decode cX2_exchanged 4 = .ok (.iload_n 1, 1) := by decide +kernel
theorem dX2_exchanged_5 : decode cX2_exchanged 5 = .ok (.iaload, 1) := by decide +kernel
theorem dX2_exchanged_6 : decode cX2_exchanged 6 = .ok (.iload_n 2, 1) := by decide +kernel
theorem dX2_exchanged_7 : decode cX2_exchanged 7 = .ok (.if_icmp .ge 5, 3) := by decide +kernel
theorem dX2_exchanged_10 : decode cX2_exchanged 10 = .ok (.iconst 3, 1) := by decide +kernel
theorem dX2_exchanged_11 : decode cX2_exchanged 11 = .ok (.ireturn, 1) := by decide +kernel
theorem dX2_exchanged_12 : decode cX2_exchanged 12 = .ok (.iload_n 2, 1) := by decide +kernel
theorem dX2_exchanged_13 : decode cX2_exchanged 13 = .ok (.aload_n 0, 1) := by decide +kernel
theorem dX2_exchanged_14 : decode cX2_exchanged 14 = .ok (.invokevirtual 88, 3) := by decide +kernel
theorem dX2_exchanged_17 : decode cX2_exchanged 17 = .ok (.imul, 1) := by decide +kernel
theorem dX2_exchanged_18 : decode cX2_exchanged 18 = .ok (.bipush 100, 2) := by decide +kernel
theorem dX2_exchanged_20 : decode cX2_exchanged 20 = .ok (.idiv, 1) := by decide +kernel
theorem dX2_exchanged_21 : decode cX2_exchanged 21 = .ok (.istore_n 3, 1) := by decide +kernel
theorem dX2_exchanged_22 : decode cX2_exchanged 22 = .ok (.aload_n 0, 1) := by decide +kernel
theorem dX2_exchanged_23 : decode cX2_exchanged 23 = .ok (.getfield 35, 3) := by decide +kernel
theorem dX2_exchanged_26 : decode cX2_exchanged 26 = .ok (.iload_n 2, 1) := by decide +kernel
theorem dX2_exchanged_27 : decode cX2_exchanged 27 = .ok (.iadd, 1) := by decide +kernel
theorem dX2_exchanged_28 : decode cX2_exchanged 28 = .ok (.ldc 87, 2) := by decide +kernel
theorem dX2_exchanged_30 : decode cX2_exchanged 30 = .ok (.if_icmp .gt 17, 3) := by decide +kernel
theorem dX2_exchanged_33 : decode cX2_exchanged 33 = .ok (.aload_n 0, 1) := by decide +kernel
theorem dX2_exchanged_34 : decode cX2_exchanged 34 = .ok (.getfield 15, 3) := by decide +kernel
theorem dX2_exchanged_37 : decode cX2_exchanged 37 = .ok (.iload_n 1, 1) := by decide +kernel
theorem dX2_exchanged_38 : decode cX2_exchanged 38 = .ok (.iaload, 1) := by decide +kernel
theorem dX2_exchanged_39 : decode cX2_exchanged 39 = .ok (.iload_n 3, 1) := by decide +kernel
theorem dX2_exchanged_40 : decode cX2_exchanged 40 = .ok (.iadd, 1) := by decide +kernel
theorem dX2_exchanged_41 : decode cX2_exchanged 41 = .ok (.sipush 9999, 3) := by decide +kernel
theorem dX2_exchanged_44 : decode cX2_exchanged 44 = .ok (.if_icmp .le 5, 3) := by decide +kernel
theorem dX2_exchanged_47 : decode cX2_exchanged 47 = .ok (.iconst 5, 1) := by decide +kernel
theorem dX2_exchanged_48 : decode cX2_exchanged 48 = .ok (.ireturn, 1) := by decide +kernel
theorem dX2_exchanged_49 : decode cX2_exchanged 49 = .ok (.aload_n 0, 1) := by decide +kernel
theorem dX2_exchanged_50 : decode cX2_exchanged 50 = .ok (.getfield 9, 3) := by decide +kernel
theorem dX2_exchanged_53 : decode cX2_exchanged 53 = .ok (.iload_n 1, 1) := by decide +kernel
theorem dX2_exchanged_54 : decode cX2_exchanged 54 = .ok (.dup2, 1) := by decide +kernel
theorem dX2_exchanged_55 : decode cX2_exchanged 55 = .ok (.iaload, 1) := by decide +kernel
theorem dX2_exchanged_56 : decode cX2_exchanged 56 = .ok (.iload_n 2, 1) := by decide +kernel
theorem dX2_exchanged_57 : decode cX2_exchanged 57 = .ok (.isub, 1) := by decide +kernel
theorem dX2_exchanged_58 : decode cX2_exchanged 58 = .ok (.iastore, 1) := by decide +kernel
theorem dX2_exchanged_59 : decode cX2_exchanged 59 = .ok (.aload_n 0, 1) := by decide +kernel
theorem dX2_exchanged_60 : decode cX2_exchanged 60 = .ok (.dup, 1) := by decide +kernel
theorem dX2_exchanged_61 : decode cX2_exchanged 61 = .ok (.getfield 35, 3) := by decide +kernel
theorem dX2_exchanged_64 : decode cX2_exchanged 64 = .ok (.iload_n 2, 1) := by decide +kernel
theorem dX2_exchanged_65 : decode cX2_exchanged 65 = .ok (.iadd, 1) := by decide +kernel
theorem dX2_exchanged_66 : decode cX2_exchanged 66 = .ok (.putfield 35, 3) := by decide +kernel
theorem dX2_exchanged_69 : decode cX2_exchanged 69 = .ok (.aload_n 0, 1) := by decide +kernel
theorem dX2_exchanged_70 : decode cX2_exchanged 70 = .ok (.getfield 15, 3) := by decide +kernel
theorem dX2_exchanged_73 : decode cX2_exchanged 73 = .ok (.iload_n 1, 1) := by decide +kernel
theorem dX2_exchanged_74 : decode cX2_exchanged 74 = .ok (.dup2, 1) := by decide +kernel
theorem dX2_exchanged_75 : decode cX2_exchanged 75 = .ok (.iaload, 1) := by decide +kernel
theorem dX2_exchanged_76 : decode cX2_exchanged 76 = .ok (.iload_n 3, 1) := by decide +kernel
theorem dX2_exchanged_77 : decode cX2_exchanged 77 = .ok (.iadd, 1) := by decide +kernel
theorem dX2_exchanged_78 : decode cX2_exchanged 78 = .ok (.iastore, 1) := by decide +kernel
theorem dX2_exchanged_79 : decode cX2_exchanged 79 = .ok (.iconst 0, 1) := by decide +kernel
theorem dX2_exchanged_80 : decode cX2_exchanged 80 = .ok (.ireturn, 1) := by decide +kernel
theorem dX2_settled_0 : decode cX2_settled 0 = .ok (.iload_n 1, 1) := by decide +kernel
theorem dX2_settled_1 : decode cX2_settled 1 = .ok (.iload_n 2, 1) := by decide +kernel
theorem dX2_settled_2 : decode cX2_settled 2 = .ok (.if_icmp .ne 5, 3) := by decide +kernel
theorem dX2_settled_5 : decode cX2_settled 5 = .ok (.iconst 1, 1) := by decide +kernel
theorem dX2_settled_6 : decode cX2_settled 6 = .ok (.ireturn, 1) := by decide +kernel
theorem dX2_settled_7 : decode cX2_settled 7 = .ok (.aload_n 0, 1) := by decide +kernel
theorem dX2_settled_8 : decode cX2_settled 8 = .ok (.getfield 20, 3) := by decide +kernel
theorem dX2_settled_11 : decode cX2_settled 11 = .ok (.iload_n 1, 1) := by decide +kernel
theorem dX2_settled_12 : decode cX2_settled 12 = .ok (.aaload, 1) := by decide +kernel
theorem dX2_settled_13 : decode cX2_settled 13 = .ok (.iload_n 2, 1) := by decide +kernel
theorem dX2_settled_14 : decode cX2_settled 14 = .ok (.iaload, 1) := by decide +kernel
theorem dX2_settled_15 : decode cX2_settled 15 = .ok (.aload_n 0, 1) := by decide +kernel
theorem dX2_settled_16 : decode cX2_settled 16 = .ok (.getfield 9, 3) := by decide +kernel
theorem dX2_settled_19 : decode cX2_settled 19 = .ok (.iload_n 1, 1) := by decide +kernel
theorem dX2_settled_20 : decode cX2_settled 20 = .ok (.iaload, 1) := by decide +kernel
theorem dX2_settled_21 : decode cX2_settled 21 = .ok (.invokestatic 91, 3) := by decide +kernel
theorem dX2_settled_24 : decode cX2_settled 24 = .ok (.istore_n 3, 1) := by decide +kernel
theorem dX2_settled_25 : decode cX2_settled 25 = .ok (.iload_n 3, 1) := by decide +kernel
theorem dX2_settled_26 : decode cX2_settled 26 = .ok (.ifCond .ne 5, 3) := by decide +kernel
theorem dX2_settled_29 : decode cX2_settled 29 = .ok (.iconst 4, 1) := by decide +kernel
theorem dX2_settled_30 : decode cX2_settled 30 = .ok (.ireturn, 1) := by decide +kernel
theorem dX2_settled_31 : decode cX2_settled 31 = .ok (.aload_n 0, 1) := by decide +kernel
theorem dX2_settled_32 : decode cX2_settled 32 = .ok (.getfield 9, 3) := by decide +kernel
theorem dX2_settled_35 : decode cX2_settled 35 = .ok (.iload_n 2, 1) := by decide +kernel
theorem dX2_settled_36 : decode cX2_settled 36 = .ok (.iaload, 1) := by decide +kernel
theorem dX2_settled_37 : decode cX2_settled 37 = .ok (.iload_n 3, 1) := by decide +kernel
theorem dX2_settled_38 : decode cX2_settled 38 = .ok (.iadd, 1) := by decide +kernel
theorem dX2_settled_39 : decode cX2_settled 39 = .ok (.sipush 9999, 3) := by decide +kernel
theorem dX2_settled_42 : decode cX2_settled 42 = .ok (.if_icmp .le 5, 3) := by decide +kernel
theorem dX2_settled_45 : decode cX2_settled 45 = .ok (.iconst 5, 1) := by decide +kernel
theorem dX2_settled_46 : decode cX2_settled 46 = .ok (.ireturn, 1) := by decide +kernel
theorem dX2_settled_47 : decode cX2_settled 47 = .ok (.aload_n 0, 1) := by decide +kernel
theorem dX2_settled_48 : decode cX2_settled 48 = .ok (.getfield 20, 3) := by decide +kernel
theorem dX2_settled_51 : decode cX2_settled 51 = .ok (.iload_n 1, 1) := by decide +kernel
theorem dX2_settled_52 : decode cX2_settled 52 = .ok (.aaload, 1) := by decide +kernel
theorem dX2_settled_53 : decode cX2_settled 53 = .ok (.iload_n 2, 1) := by decide +kernel
theorem dX2_settled_54 : decode cX2_settled 54 = .ok (.dup2, 1) := by decide +kernel
theorem dX2_settled_55 : decode cX2_settled 55 = .ok (.iaload, 1) := by decide +kernel
theorem dX2_settled_56 : decode cX2_settled 56 = .ok (.iload_n 3, 1) := by decide +kernel
theorem dX2_settled_57 : decode cX2_settled 57 = .ok (.isub, 1) := by decide +kernel
theorem dX2_settled_58 : decode cX2_settled 58 = .ok (.iastore, 1) := by decide +kernel
theorem dX2_settled_59 : decode cX2_settled 59 = .ok (.aload_n 0, 1) := by decide +kernel
theorem dX2_settled_60 : decode cX2_settled 60 = .ok (.getfield 9, 3) := by decide +kernel
theorem dX2_settled_63 : decode cX2_settled 63 = .ok (.iload_n 1, 1) := by decide +kernel
theorem dX2_settled_64 : decode cX2_settled 64 = .ok (.dup2, 1) := by decide +kernel
theorem dX2_settled_65 : decode cX2_settled 65 = .ok (.iaload, 1) := by decide +kernel
theorem dX2_settled_66 : decode cX2_settled 66 = .ok (.iload_n 3, 1) := by decide +kernel
theorem dX2_settled_67 : decode cX2_settled 67 = .ok (.isub, 1) := by decide +kernel
theorem dX2_settled_68 : decode cX2_settled 68 = .ok (.iastore, 1) := by decide +kernel
theorem dX2_settled_69 : decode cX2_settled 69 = .ok (.aload_n 0, 1) := by decide +kernel
theorem dX2_settled_70 : decode cX2_settled 70 = .ok (.getfield 9, 3) := by decide +kernel
theorem dX2_settled_73 : decode cX2_settled 73 = .ok (.iload_n 2, 1) := by decide +kernel
theorem dX2_settled_74 : decode cX2_settled 74 = .ok (.dup2, 1) := by decide +kernel
theorem dX2_settled_75 : decode cX2_settled 75 = .ok (.iaload, 1) := by decide +kernel
theorem dX2_settled_76 : decode cX2_settled 76 = .ok (.iload_n 3, 1) := by decide +kernel
theorem dX2_settled_77 : decode cX2_settled 77 = .ok (.iadd, 1) := by decide +kernel
theorem dX2_settled_78 : decode cX2_settled 78 = .ok (.iastore, 1) := by decide +kernel
theorem dX2_settled_79 : decode cX2_settled 79 = .ok (.iconst 0, 1) := by decide +kernel
theorem dX2_settled_80 : decode cX2_settled 80 = .ok (.ireturn, 1) := by decide +kernel
theorem dX2_forgedFor_0 : decode cX2_forgedFor 0 = .ok (.aload_n 0, 1) := by decide +kernel
theorem dX2_forgedFor_1 : decode cX2_forgedFor 1 = .ok (.getfield 9, 3) := by decide +kernel
theorem dX2_forgedFor_4 : decode cX2_forgedFor 4 = .ok (.iload_n 1, 1) := by decide +kernel
theorem dX2_forgedFor_5 : decode cX2_forgedFor 5 = .ok (.iaload, 1) := by decide +kernel
theorem dX2_forgedFor_6 : decode cX2_forgedFor 6 = .ok (.iload_n 2, 1) := by decide +kernel
theorem dX2_forgedFor_7 : decode cX2_forgedFor 7 = .ok (.iadd, 1) := by decide +kernel
theorem dX2_forgedFor_8 : decode cX2_forgedFor 8 = .ok (.sipush 9999, 3) := by decide +kernel
theorem dX2_forgedFor_11 : decode cX2_forgedFor 11 = .ok (.if_icmp .gt 14, 3) := by decide +kernel
theorem dX2_forgedFor_14 : decode cX2_forgedFor 14 = .ok (.aload_n 0, 1) := by decide +kernel
theorem dX2_forgedFor_15 : decode cX2_forgedFor 15 = .ok (.getfield 39, 3) := by decide +kernel
theorem dX2_forgedFor_18 : decode cX2_forgedFor 18 = .ok (.iload_n 2, 1) := by decide +kernel
theorem dX2_forgedFor_19 : decode cX2_forgedFor 19 = .ok (.iadd, 1) := by decide +kernel
theorem dX2_forgedFor_20 : decode cX2_forgedFor 20 = .ok (.ldc 87, 2) := by decide +kernel
theorem dX2_forgedFor_22 : decode cX2_forgedFor 22 = .ok (.if_icmp .le 5, 3) := by decide +kernel
theorem dX2_forgedFor_25 : decode cX2_forgedFor 25 = .ok (.iconst 5, 1) := by decide +kernel
theorem dX2_forgedFor_26 : decode cX2_forgedFor 26 = .ok (.ireturn, 1) := by decide +kernel
theorem dX2_forgedFor_27 : decode cX2_forgedFor 27 = .ok (.aload_n 0, 1) := by decide +kernel
theorem dX2_forgedFor_28 : decode cX2_forgedFor 28 = .ok (.getfield 9, 3) := by decide +kernel
theorem dX2_forgedFor_31 : decode cX2_forgedFor 31 = .ok (.iload_n 1, 1) := by decide +kernel
theorem dX2_forgedFor_32 : decode cX2_forgedFor 32 = .ok (.dup2, 1) := by decide +kernel
theorem dX2_forgedFor_33 : decode cX2_forgedFor 33 = .ok (.iaload, 1) := by decide +kernel
theorem dX2_forgedFor_34 : decode cX2_forgedFor 34 = .ok (.iload_n 2, 1) := by decide +kernel
theorem dX2_forgedFor_35 : decode cX2_forgedFor 35 = .ok (.iadd, 1) := by decide +kernel
theorem dX2_forgedFor_36 : decode cX2_forgedFor 36 = .ok (.iastore, 1) := by decide +kernel
theorem dX2_forgedFor_37 : decode cX2_forgedFor 37 = .ok (.aload_n 0, 1) := by decide +kernel
theorem dX2_forgedFor_38 : decode cX2_forgedFor 38 = .ok (.dup, 1) := by decide +kernel
theorem dX2_forgedFor_39 : decode cX2_forgedFor 39 = .ok (.getfield 39, 3) := by decide +kernel
theorem dX2_forgedFor_42 : decode cX2_forgedFor 42 = .ok (.iload_n 2, 1) := by decide +kernel
theorem dX2_forgedFor_43 : decode cX2_forgedFor 43 = .ok (.iadd, 1) := by decide +kernel
theorem dX2_forgedFor_44 : decode cX2_forgedFor 44 = .ok (.putfield 39, 3) := by decide +kernel
theorem dX2_forgedFor_47 : decode cX2_forgedFor 47 = .ok (.iconst 0, 1) := by decide +kernel
theorem dX2_forgedFor_48 : decode cX2_forgedFor 48 = .ok (.ireturn, 1) := by decide +kernel
theorem dX2_monthEnded_0 : decode cX2_monthEnded 0 = .ok (.aload_n 0, 1) := by decide +kernel
theorem dX2_monthEnded_1 : decode cX2_monthEnded 1 = .ok (.getfield 45, 3) := by decide +kernel
theorem dX2_monthEnded_4 : decode cX2_monthEnded 4 = .ok (.bipush 99, 2) := by decide +kernel
theorem dX2_monthEnded_6 : decode cX2_monthEnded 6 = .ok (.if_icmp .ne 6, 3) := by decide +kernel
theorem dX2_monthEnded_9 : decode cX2_monthEnded 9 = .ok (.bipush 6, 2) := by decide +kernel
theorem dX2_monthEnded_11 : decode cX2_monthEnded 11 = .ok (.ireturn, 1) := by decide +kernel
theorem dX2_monthEnded_12 : decode cX2_monthEnded 12 = .ok (.aload_n 0, 1) := by decide +kernel
theorem dX2_monthEnded_13 : decode cX2_monthEnded 13 = .ok (.dup, 1) := by decide +kernel
theorem dX2_monthEnded_14 : decode cX2_monthEnded 14 = .ok (.getfield 45, 3) := by decide +kernel
theorem dX2_monthEnded_17 : decode cX2_monthEnded 17 = .ok (.iconst 1, 1) := by decide +kernel
theorem dX2_monthEnded_18 : decode cX2_monthEnded 18 = .ok (.iadd, 1) := by decide +kernel
theorem dX2_monthEnded_19 : decode cX2_monthEnded 19 = .ok (.putfield 45, 3) := by decide +kernel
theorem dX2_monthEnded_22 : decode cX2_monthEnded 22 = .ok (.iconst 0, 1) := by decide +kernel
theorem dX2_monthEnded_23 : decode cX2_monthEnded 23 = .ok (.ireturn, 1) := by decide +kernel
theorem dX3_init_0 : decode cX3_init 0 = .ok (.aload_n 0, 1) := by decide +kernel
theorem dX3_init_1 : decode cX3_init 1 = .ok (.invokespecial 3, 3) := by decide +kernel
theorem dX3_init_4 : decode cX3_init 4 = .ok (.aload_n 0, 1) := by decide +kernel
theorem dX3_init_5 : decode cX3_init 5 = .ok (.bipush 6, 2) := by decide +kernel
theorem dX3_init_7 : decode cX3_init 7 = .ok (.newarray .int, 2) := by decide +kernel
theorem dX3_init_9 : decode cX3_init 9 = .ok (.putfield 9, 3) := by decide +kernel
theorem dX3_init_12 : decode cX3_init 12 = .ok (.aload_n 0, 1) := by decide +kernel
theorem dX3_init_13 : decode cX3_init 13 = .ok (.bipush 64, 2) := by decide +kernel
theorem dX3_init_15 : decode cX3_init 15 = .ok (.newarray .int, 2) := by decide +kernel
theorem dX3_init_17 : decode cX3_init 17 = .ok (.putfield 15, 3) := by decide +kernel
theorem dX3_init_20 : decode cX3_init 20 = .ok (.return_, 1) := by decide +kernel
theorem dX3_weigh_0 : decode cX3_weigh 0 = .ok (.iconst 0, 1) := by decide +kernel
theorem dX3_weigh_1 : decode cX3_weigh 1 = .ok (.istore_n 2, 1) := by decide +kernel
theorem dX3_weigh_2 : decode cX3_weigh 2 = .ok (.iload_n 2, 1) := by decide +kernel
theorem dX3_weigh_3 : decode cX3_weigh 3 = .ok (.bipush 6, 2) := by decide +kernel
theorem dX3_weigh_5 : decode cX3_weigh 5 = .ok (.if_icmp .ge 52, 3) := by decide +kernel
theorem dX3_weigh_8 : decode cX3_weigh 8 = .ok (.aload_n 0, 1) := by decide +kernel
theorem dX3_weigh_9 : decode cX3_weigh 9 = .ok (.getfield 9, 3) := by decide +kernel
theorem dX3_weigh_12 : decode cX3_weigh 12 = .ok (.iload_n 2, 1) := by decide +kernel
theorem dX3_weigh_13 : decode cX3_weigh 13 = .ok (.aload_n 1, 1) := by decide +kernel
theorem dX3_weigh_14 : decode cX3_weigh 14 = .ok (.iload_n 2, 1) := by decide +kernel
theorem dX3_weigh_15 : decode cX3_weigh 15 = .ok (.invokevirtual 18, 3) := by decide +kernel
theorem dX3_weigh_18 : decode cX3_weigh 18 = .ok (.ineg, 1) := by decide +kernel
theorem dX3_weigh_19 : decode cX3_weigh 19 = .ok (.iastore, 1) := by decide +kernel
theorem dX3_weigh_20 : decode cX3_weigh 20 = .ok (.iconst 0, 1) := by decide +kernel
theorem dX3_weigh_21 : decode cX3_weigh 21 = .ok (.istore_n 3, 1) := by decide +kernel
theorem dX3_weigh_22 : decode cX3_weigh 22 = .ok (.iload_n 3, 1) := by decide +kernel
theorem dX3_weigh_23 : decode cX3_weigh 23 = .ok (.bipush 6, 2) := by decide +kernel
theorem dX3_weigh_25 : decode cX3_weigh 25 = .ok (.if_icmp .ge 26, 3) := by decide +kernel
theorem dX3_weigh_28 : decode cX3_weigh 28 = .ok (.aload_n 0, 1) := by decide +kernel
theorem dX3_weigh_29 : decode cX3_weigh 29 = .ok (.getfield 9, 3) := by decide +kernel
theorem dX3_weigh_32 : decode cX3_weigh 32 = .ok (.iload_n 2, 1) := by decide +kernel
theorem dX3_weigh_33 : decode cX3_weigh 33 = .ok (.dup2, 1) := by decide +kernel
theorem dX3_weigh_34 : decode cX3_weigh 34 = .ok (.iaload, 1) := by decide +kernel
theorem dX3_weigh_35 : decode cX3_weigh 35 = .ok (.aload_n 1, 1) := by decide +kernel
theorem dX3_weigh_36 : decode cX3_weigh 36 = .ok (.getfield 24, 3) := by decide +kernel
theorem dX3_weigh_39 : decode cX3_weigh 39 = .ok (.iload_n 3, 1) := by decide +kernel
theorem dX3_weigh_40 : decode cX3_weigh 40 = .ok (.aaload, 1) := by decide +kernel
theorem dX3_weigh_41 : decode cX3_weigh 41 = .ok (.iload_n 2, 1) := by decide +kernel
theorem dX3_weigh_42 : decode cX3_weigh 42 = .ok (.iaload, 1) := by decide +kernel
theorem dX3_weigh_43 : decode cX3_weigh 43 = .ok (.iadd, 1) := by decide +kernel
theorem dX3_weigh_44 : decode cX3_weigh 44 = .ok (.iastore, 1) := by decide +kernel
theorem dX3_weigh_45 : decode cX3_weigh 45 = .ok (.iinc 3 1, 3) := by decide +kernel
theorem dX3_weigh_48 : decode cX3_weigh 48 = .ok (.goto (-26), 3) := by decide +kernel
theorem dX3_weigh_51 : decode cX3_weigh 51 = .ok (.iinc 2 1, 3) := by decide +kernel
theorem dX3_weigh_54 : decode cX3_weigh 54 = .ok (.goto (-52), 3) := by decide +kernel
theorem dX3_weigh_57 : decode cX3_weigh 57 = .ok (.return_, 1) := by decide +kernel
theorem dX3_leastPaid_0 : decode cX3_leastPaid 0 = .ok (.iconst 0, 1) := by decide +kernel
theorem dX3_leastPaid_1 : decode cX3_leastPaid 1 = .ok (.istore_n 1, 1) := by decide +kernel
theorem dX3_leastPaid_2 : decode cX3_leastPaid 2 = .ok (.iconst 0, 1) := by decide +kernel
theorem dX3_leastPaid_3 : decode cX3_leastPaid 3 = .ok (.istore_n 2, 1) := by decide +kernel
theorem dX3_leastPaid_4 : decode cX3_leastPaid 4 = .ok (.iload_n 2, 1) := by decide +kernel
theorem dX3_leastPaid_5 : decode cX3_leastPaid 5 = .ok (.bipush 6, 2) := by decide +kernel
theorem dX3_leastPaid_7 : decode cX3_leastPaid 7 = .ok (.if_icmp .ge 22, 3) := by decide +kernel
theorem dX3_leastPaid_10 : decode cX3_leastPaid 10 = .ok (.iload_n 1, 1) := by decide +kernel
theorem dX3_leastPaid_11 : decode cX3_leastPaid 11 = .ok (.iconst 0, 1) := by decide +kernel
theorem dX3_leastPaid_12 : decode cX3_leastPaid 12 = .ok (.aload_n 0, 1) := by decide +kernel
theorem dX3_leastPaid_13 : decode cX3_leastPaid 13 = .ok (.getfield 9, 3) := by decide +kernel
theorem dX3_leastPaid_16 : decode cX3_leastPaid 16 = .ok (.iload_n 2, 1) := by decide +kernel
theorem dX3_leastPaid_17 : decode cX3_leastPaid 17 = .ok (.iaload, 1) := by decide +kernel
theorem dX3_leastPaid_18 : decode cX3_leastPaid 18 = .ok (.invokestatic 28, 3) := by decide +kernel
theorem dX3_leastPaid_21 : decode cX3_leastPaid 21 = .ok (.iadd, 1) := by decide +kernel
theorem dX3_leastPaid_22 : decode cX3_leastPaid 22 = .ok (.istore_n 1, 1) := by decide +kernel
theorem dX3_leastPaid_23 : decode cX3_leastPaid 23 = .ok (.iinc 2 1, 3) := by decide +kernel
theorem dX3_leastPaid_26 : decode cX3_leastPaid 26 = .ok (.goto (-22), 3) := by decide +kernel
theorem dX3_leastPaid_29 : decode cX3_leastPaid 29 = .ok (.iload_n 1, 1) := by decide +kernel
theorem dX3_leastPaid_30 : decode cX3_leastPaid 30 = .ok (.ireturn, 1) := by decide +kernel
theorem dX3_fewestPayments_0 : decode cX3_fewestPayments 0 = .ok (.bipush 63, 2) := by decide +kernel
theorem dX3_fewestPayments_2 : decode cX3_fewestPayments 2 = .ok (.istore_n 1, 1) := by decide +kernel
theorem dX3_fewestPayments_3 : decode cX3_fewestPayments 3 = .ok (.aload_n 0, 1) := by decide +kernel
theorem dX3_fewestPayments_4 : decode cX3_fewestPayments 4 = .ok (.getfield 15, 3) := by decide +kernel
theorem dX3_fewestPayments_7 : decode cX3_fewestPayments 7 = .ok (.iconst 0, 1) := by decide +kernel
theorem dX3_fewestPayments_8 : decode cX3_fewestPayments 8 = .ok (.iconst 0, 1) := by decide +kernel
theorem dX3_fewestPayments_9 : decode cX3_fewestPayments 9 = .ok (.iastore, 1) := by decide +kernel
theorem dX3_fewestPayments_10 : decode cX3_fewestPayments 10 = .ok (.iconst 1, 1) := by decide +kernel
theorem dX3_fewestPayments_11 : decode cX3_fewestPayments 11 = .ok (.istore_n 2, 1) := by decide +kernel
theorem dX3_fewestPayments_12 : decode cX3_fewestPayments 12 = .ok (.iload_n 2, 1) := by decide +kernel
theorem dX3_fewestPayments_13 : decode cX3_fewestPayments 13 = .ok (.iload_n 1, 1) := by decide +kernel
theorem dX3_fewestPayments_14 : decode cX3_fewestPayments 14 = .ok (.if_icmp .gt 76, 3) := by decide +kernel
theorem dX3_fewestPayments_17 : decode cX3_fewestPayments 17 = .ok (.iconst 0, 1) := by decide +kernel
theorem dX3_fewestPayments_18 : decode cX3_fewestPayments 18 = .ok (.istore_n 3, 1) := by decide +kernel
theorem dX3_fewestPayments_19 : decode cX3_fewestPayments 19 = .ok (.iconst 0, 1) := by decide +kernel
theorem dX3_fewestPayments_20 : decode cX3_fewestPayments 20 = .ok (.istore 4, 2) := by decide +kernel
theorem dX3_fewestPayments_22 : decode cX3_fewestPayments 22 = .ok (.iload 4, 2) := by decide +kernel
theorem dX3_fewestPayments_24 : decode cX3_fewestPayments 24 = .ok (.bipush 6, 2) := by decide +kernel
theorem dX3_fewestPayments_26 : decode cX3_fewestPayments 26 = .ok (.if_icmp .ge 37, 3) := by decide +kernel
theorem dX3_fewestPayments_29 : decode cX3_fewestPayments 29 = .ok (.iload_n 2, 1) := by decide +kernel
theorem dX3_fewestPayments_30 : decode cX3_fewestPayments 30 = .ok (.iload 4, 2) := by decide +kernel
theorem dX3_fewestPayments_32 : decode cX3_fewestPayments 32 = .ok (.ishr, 1) := by decide +kernel
theorem dX3_fewestPayments_33 : decode cX3_fewestPayments 33 = .ok (.iconst 1, 1) := by decide +kernel
theorem dX3_fewestPayments_34 : decode cX3_fewestPayments 34 = .ok (.iand, 1) := by decide +kernel
theorem dX3_fewestPayments_35 : decode cX3_fewestPayments 35 = .ok (.iconst 1, 1) := by decide +kernel
theorem dX3_fewestPayments_36 : decode cX3_fewestPayments 36 = .ok (.if_icmp .ne 21, 3) := by decide +kernel
theorem dX3_fewestPayments_39 : decode cX3_fewestPayments 39 = .ok (.iload_n 3, 1) := by decide +kernel
theorem dX3_fewestPayments_40 : decode cX3_fewestPayments 40 = .ok (.aload_n 0, 1) := by decide +kernel
theorem dX3_fewestPayments_41 : decode cX3_fewestPayments 41 = .ok (.getfield 15, 3) := by decide +kernel
theorem dX3_fewestPayments_44 : decode cX3_fewestPayments 44 = .ok (.iload_n 2, 1) := by decide +kernel
theorem dX3_fewestPayments_45 : decode cX3_fewestPayments 45 = .ok (.iconst 1, 1) := by decide +kernel
theorem dX3_fewestPayments_46 : decode cX3_fewestPayments 46 = .ok (.iload 4, 2) := by decide +kernel
theorem dX3_fewestPayments_48 : decode cX3_fewestPayments 48 = .ok (.ishl, 1) := by decide +kernel
theorem dX3_fewestPayments_49 : decode cX3_fewestPayments 49 = .ok (.iconst (-1), 1) := by decide +kernel
theorem dX3_fewestPayments_50 : decode cX3_fewestPayments 50 = .ok (.ixor, 1) := by decide +kernel
theorem dX3_fewestPayments_51 : decode cX3_fewestPayments 51 = .ok (.iand, 1) := by decide +kernel
theorem dX3_fewestPayments_52 : decode cX3_fewestPayments 52 = .ok (.iaload, 1) := by decide +kernel
theorem dX3_fewestPayments_53 : decode cX3_fewestPayments 53 = .ok (.invokestatic 28, 3) := by decide +kernel
theorem dX3_fewestPayments_56 : decode cX3_fewestPayments 56 = .ok (.istore_n 3, 1) := by decide +kernel
theorem dX3_fewestPayments_57 : decode cX3_fewestPayments 57 = .ok (.iinc 4 1, 3) := by decide +kernel
theorem dX3_fewestPayments_60 : decode cX3_fewestPayments 60 = .ok (.goto (-38), 3) := by decide +kernel
theorem dX3_fewestPayments_63 : decode cX3_fewestPayments 63 = .ok (.aload_n 0, 1) := by decide +kernel
theorem dX3_fewestPayments_64 : decode cX3_fewestPayments 64 = .ok (.getfield 15, 3) := by decide +kernel
theorem dX3_fewestPayments_67 : decode cX3_fewestPayments 67 = .ok (.iload_n 2, 1) := by decide +kernel
theorem dX3_fewestPayments_68 : decode cX3_fewestPayments 68 = .ok (.aload_n 0, 1) := by decide +kernel
theorem dX3_fewestPayments_69 : decode cX3_fewestPayments 69 = .ok (.iload_n 2, 1) := by decide +kernel
theorem dX3_fewestPayments_70 : decode cX3_fewestPayments 70 = .ok (.invokevirtual 34, 3) := by decide +kernel
theorem dX3_fewestPayments_73 : decode cX3_fewestPayments 73 = .ok (.ifCond .ne 9, 3) := by decide +kernel
theorem dX3_fewestPayments_76 : decode cX3_fewestPayments 76 = .ok (.iload_n 3, 1) := by decide +kernel
theorem dX3_fewestPayments_77 : decode cX3_fewestPayments 77 = .ok (.iconst 1, 1) := by decide +kernel
theorem dX3_fewestPayments_78 : decode cX3_fewestPayments 78 = .ok (.iadd, 1) := by decide +kernel
theorem dX3_fewestPayments_79 : decode cX3_fewestPayments 79 = .ok (.goto 4, 3) := by decide +kernel
theorem dX3_fewestPayments_82 : decode cX3_fewestPayments 82 = .ok (.iload_n 3, 1) := by decide +kernel
theorem dX3_fewestPayments_83 : decode cX3_fewestPayments 83 = .ok (.iastore, 1) := by decide +kernel
theorem dX3_fewestPayments_84 : decode cX3_fewestPayments 84 = .ok (.iinc 2 1, 3) := by decide +kernel
theorem dX3_fewestPayments_87 : decode cX3_fewestPayments 87 = .ok (.goto (-75), 3) := by decide +kernel
theorem dX3_fewestPayments_90 : decode cX3_fewestPayments 90 = .ok (.bipush 6, 2) := by decide +kernel
theorem dX3_fewestPayments_92 : decode cX3_fewestPayments 92 = .ok (.aload_n 0, 1) := by decide +kernel
theorem dX3_fewestPayments_93 : decode cX3_fewestPayments 93 = .ok (.getfield 15, 3) := by decide +kernel
theorem dX3_fewestPayments_96 : decode cX3_fewestPayments 96 = .ok (.iload_n 1, 1) := by decide +kernel
theorem dX3_fewestPayments_97 : decode cX3_fewestPayments 97 = .ok (.iaload, 1) := by decide +kernel
theorem dX3_fewestPayments_98 : decode cX3_fewestPayments 98 = .ok (.isub, 1) := by decide +kernel
theorem dX3_fewestPayments_99 : decode cX3_fewestPayments 99 = .ok (.ireturn, 1) := by decide +kernel
theorem dX3_dueTo_0 : decode cX3_dueTo 0 = .ok (.iconst 0, 1) := by decide +kernel
theorem dX3_dueTo_1 : decode cX3_dueTo 1 = .ok (.istore_n 2, 1) := by decide +kernel
theorem dX3_dueTo_2 : decode cX3_dueTo 2 = .ok (.iconst 0, 1) := by decide +kernel
theorem dX3_dueTo_3 : decode cX3_dueTo 3 = .ok (.istore_n 3, 1) := by decide +kernel
theorem dX3_dueTo_4 : decode cX3_dueTo 4 = .ok (.iload_n 3, 1) := by decide +kernel
theorem dX3_dueTo_5 : decode cX3_dueTo 5 = .ok (.bipush 6, 2) := by decide +kernel
theorem dX3_dueTo_7 : decode cX3_dueTo 7 = .ok (.if_icmp .ge 27, 3) := by decide +kernel
theorem dX3_dueTo_10 : decode cX3_dueTo 10 = .ok (.iload_n 1, 1) := by decide +kernel
theorem dX3_dueTo_11 : decode cX3_dueTo 11 = .ok (.iload_n 3, 1) := by decide +kernel
theorem dX3_dueTo_12 : decode cX3_dueTo 12 = .ok (.ishr, 1) := by decide +kernel
theorem dX3_dueTo_13 : decode cX3_dueTo 13 = .ok (.iconst 1, 1) := by decide +kernel
theorem dX3_dueTo_14 : decode cX3_dueTo 14 = .ok (.iand, 1) := by decide +kernel
theorem dX3_dueTo_15 : decode cX3_dueTo 15 = .ok (.iconst 1, 1) := by decide +kernel
theorem dX3_dueTo_16 : decode cX3_dueTo 16 = .ok (.if_icmp .ne 12, 3) := by decide +kernel
theorem dX3_dueTo_19 : decode cX3_dueTo 19 = .ok (.iload_n 2, 1) := by decide +kernel
theorem dX3_dueTo_20 : decode cX3_dueTo 20 = .ok (.aload_n 0, 1) := by decide +kernel
theorem dX3_dueTo_21 : decode cX3_dueTo 21 = .ok (.getfield 9, 3) := by decide +kernel
theorem dX3_dueTo_24 : decode cX3_dueTo 24 = .ok (.iload_n 3, 1) := by decide +kernel
theorem dX3_dueTo_25 : decode cX3_dueTo 25 = .ok (.iaload, 1) := by decide +kernel
theorem dX3_dueTo_26 : decode cX3_dueTo 26 = .ok (.iadd, 1) := by decide +kernel
theorem dX3_dueTo_27 : decode cX3_dueTo 27 = .ok (.istore_n 2, 1) := by decide +kernel
theorem dX3_dueTo_28 : decode cX3_dueTo 28 = .ok (.iinc 3 1, 3) := by decide +kernel
theorem dX3_dueTo_31 : decode cX3_dueTo 31 = .ok (.goto (-27), 3) := by decide +kernel
theorem dX3_dueTo_34 : decode cX3_dueTo 34 = .ok (.iload_n 2, 1) := by decide +kernel
theorem dX3_dueTo_35 : decode cX3_dueTo 35 = .ok (.ireturn, 1) := by decide +kernel
theorem dX4_init_0 : decode cX4_init 0 = .ok (.aload_n 0, 1) := by decide +kernel
theorem dX4_init_1 : decode cX4_init 1 = .ok (.invokespecial 3, 3) := by decide +kernel
theorem dX4_init_4 : decode cX4_init 4 = .ok (.aload_n 0, 1) := by decide +kernel
theorem dX4_init_5 : decode cX4_init 5 = .ok (.bipush 8, 2) := by decide +kernel
theorem dX4_init_7 : decode cX4_init 7 = .ok (.newarray .int, 2) := by decide +kernel
theorem dX4_init_9 : decode cX4_init 9 = .ok (.putfield 9, 3) := by decide +kernel
theorem dX4_init_12 : decode cX4_init 12 = .ok (.aload_n 0, 1) := by decide +kernel
theorem dX4_init_13 : decode cX4_init 13 = .ok (.bipush 8, 2) := by decide +kernel
theorem dX4_init_15 : decode cX4_init 15 = .ok (.newarray .int, 2) := by decide +kernel
theorem dX4_init_17 : decode cX4_init 17 = .ok (.putfield 15, 3) := by decide +kernel
theorem dX4_init_20 : decode cX4_init 20 = .ok (.aload_n 0, 1) := by decide +kernel
theorem dX4_init_21 : decode cX4_init 21 = .ok (.bipush 8, 2) := by decide +kernel
theorem dX4_init_23 : decode cX4_init 23 = .ok (.newarray .int, 2) := by decide +kernel
theorem dX4_init_25 : decode cX4_init 25 = .ok (.putfield 18, 3) := by decide +kernel
theorem dX4_init_28 : decode cX4_init 28 = .ok (.aload_n 0, 1) := by decide +kernel
theorem dX4_init_29 : decode cX4_init 29 = .ok (.bipush 8, 2) := by decide +kernel
theorem dX4_init_31 : decode cX4_init 31 = .ok (.newarray .int, 2) := by decide +kernel
theorem dX4_init_33 : decode cX4_init 33 = .ok (.putfield 21, 3) := by decide +kernel
theorem dX4_init_36 : decode cX4_init 36 = .ok (.return_, 1) := by decide +kernel
theorem dX4_add_0 : decode cX4_add 0 = .ok (.aload_n 0, 1) := by decide +kernel
theorem dX4_add_1 : decode cX4_add 1 = .ok (.getfield 24, 3) := by decide +kernel
theorem dX4_add_4 : decode cX4_add 4 = .ok (.bipush 8, 2) := by decide +kernel
theorem dX4_add_6 : decode cX4_add 6 = .ok (.if_icmp .ge 43, 3) := by decide +kernel
theorem dX4_add_9 : decode cX4_add 9 = .ok (.aload_n 0, 1) := by decide +kernel
theorem dX4_add_10 : decode cX4_add 10 = .ok (.getfield 9, 3) := by decide +kernel
theorem dX4_add_13 : decode cX4_add 13 = .ok (.aload_n 0, 1) := by decide +kernel
theorem dX4_add_14 : decode cX4_add 14 = .ok (.getfield 24, 3) := by decide +kernel
theorem dX4_add_17 : decode cX4_add 17 = .ok (.iload_n 1, 1) := by decide +kernel
theorem dX4_add_18 : decode cX4_add 18 = .ok (.iastore, 1) := by decide +kernel
theorem dX4_add_19 : decode cX4_add 19 = .ok (.aload_n 0, 1) := by decide +kernel
theorem dX4_add_20 : decode cX4_add 20 = .ok (.getfield 15, 3) := by decide +kernel
theorem dX4_add_23 : decode cX4_add 23 = .ok (.aload_n 0, 1) := by decide +kernel
theorem dX4_add_24 : decode cX4_add 24 = .ok (.getfield 24, 3) := by decide +kernel
theorem dX4_add_27 : decode cX4_add 27 = .ok (.iload_n 2, 1) := by decide +kernel
theorem dX4_add_28 : decode cX4_add 28 = .ok (.iastore, 1) := by decide +kernel
theorem dX4_add_29 : decode cX4_add 29 = .ok (.aload_n 0, 1) := by decide +kernel
theorem dX4_add_30 : decode cX4_add 30 = .ok (.getfield 18, 3) := by decide +kernel
theorem dX4_add_33 : decode cX4_add 33 = .ok (.aload_n 0, 1) := by decide +kernel
theorem dX4_add_34 : decode cX4_add 34 = .ok (.getfield 24, 3) := by decide +kernel
theorem dX4_add_37 : decode cX4_add 37 = .ok (.iload_n 3, 1) := by decide +kernel
theorem dX4_add_38 : decode cX4_add 38 = .ok (.iastore, 1) := by decide +kernel
theorem dX4_add_39 : decode cX4_add 39 = .ok (.aload_n 0, 1) := by decide +kernel
theorem dX4_add_40 : decode cX4_add 40 = .ok (.dup, 1) := by decide +kernel
theorem dX4_add_41 : decode cX4_add 41 = .ok (.getfield 24, 3) := by decide +kernel
theorem dX4_add_44 : decode cX4_add 44 = .ok (.iconst 1, 1) := by decide +kernel
theorem dX4_add_45 : decode cX4_add 45 = .ok (.iadd, 1) := by decide +kernel
theorem dX4_add_46 : decode cX4_add 46 = .ok (.putfield 24, 3) := by decide +kernel
theorem dX4_add_49 : decode cX4_add 49 = .ok (.return_, 1) := by decide +kernel
theorem dX4_copyFrom_0 : decode cX4_copyFrom 0 = .ok (.aload_n 1, 1) := by decide +kernel
theorem dX4_copyFrom_1 : decode cX4_copyFrom 1 = .ok (.getfield 9, 3) := by decide +kernel
theorem dX4_copyFrom_4 : decode cX4_copyFrom 4 = .ok (.iconst 0, 1) := by decide +kernel
theorem dX4_copyFrom_5 : decode cX4_copyFrom 5 = .ok (.aload_n 0, 1) := by decide +kernel
theorem dX4_copyFrom_6 : decode cX4_copyFrom 6 = .ok (.getfield 9, 3) := by decide +kernel
theorem dX4_copyFrom_9 : decode cX4_copyFrom 9 = .ok (.iconst 0, 1) := by decide +kernel
theorem dX4_copyFrom_10 : decode cX4_copyFrom 10 = .ok (.bipush 8, 2) := by decide +kernel
theorem dX4_copyFrom_12 : decode cX4_copyFrom 12 = .ok (.invokestatic 28, 3) := by decide +kernel
theorem dX4_copyFrom_15 : decode cX4_copyFrom 15 = .ok (.aload_n 1, 1) := by decide +kernel
theorem dX4_copyFrom_16 : decode cX4_copyFrom 16 = .ok (.getfield 15, 3) := by decide +kernel
theorem dX4_copyFrom_19 : decode cX4_copyFrom 19 = .ok (.iconst 0, 1) := by decide +kernel
theorem dX4_copyFrom_20 : decode cX4_copyFrom 20 = .ok (.aload_n 0, 1) := by decide +kernel
theorem dX4_copyFrom_21 : decode cX4_copyFrom 21 = .ok (.getfield 15, 3) := by decide +kernel
theorem dX4_copyFrom_24 : decode cX4_copyFrom 24 = .ok (.iconst 0, 1) := by decide +kernel
theorem dX4_copyFrom_25 : decode cX4_copyFrom 25 = .ok (.bipush 8, 2) := by decide +kernel
theorem dX4_copyFrom_27 : decode cX4_copyFrom 27 = .ok (.invokestatic 28, 3) := by decide +kernel
theorem dX4_copyFrom_30 : decode cX4_copyFrom 30 = .ok (.aload_n 1, 1) := by decide +kernel
theorem dX4_copyFrom_31 : decode cX4_copyFrom 31 = .ok (.getfield 18, 3) := by decide +kernel
theorem dX4_copyFrom_34 : decode cX4_copyFrom 34 = .ok (.iconst 0, 1) := by decide +kernel
theorem dX4_copyFrom_35 : decode cX4_copyFrom 35 = .ok (.aload_n 0, 1) := by decide +kernel
theorem dX4_copyFrom_36 : decode cX4_copyFrom 36 = .ok (.getfield 18, 3) := by decide +kernel
theorem dX4_copyFrom_39 : decode cX4_copyFrom 39 = .ok (.iconst 0, 1) := by decide +kernel
theorem dX4_copyFrom_40 : decode cX4_copyFrom 40 = .ok (.bipush 8, 2) := by decide +kernel
theorem dX4_copyFrom_42 : decode cX4_copyFrom 42 = .ok (.invokestatic 28, 3) := by decide +kernel
theorem dX4_copyFrom_45 : decode cX4_copyFrom 45 = .ok (.aload_n 0, 1) := by decide +kernel
theorem dX4_copyFrom_46 : decode cX4_copyFrom 46 = .ok (.aload_n 1, 1) := by decide +kernel
theorem dX4_copyFrom_47 : decode cX4_copyFrom 47 = .ok (.getfield 24, 3) := by decide +kernel
theorem dX4_copyFrom_50 : decode cX4_copyFrom 50 = .ok (.putfield 24, 3) := by decide +kernel
theorem dX4_copyFrom_53 : decode cX4_copyFrom 53 = .ok (.return_, 1) := by decide +kernel
theorem dX4_fit_0 : decode cX4_fit 0 = .ok (.iload_n 1, 1) := by decide +kernel
theorem dX4_fit_1 : decode cX4_fit 1 = .ok (.invokestatic 34, 3) := by decide +kernel
theorem dX4_fit_4 : decode cX4_fit 4 = .ok (.iload_n 2, 1) := by decide +kernel
theorem dX4_fit_5 : decode cX4_fit 5 = .ok (.if_icmp .le 5, 3) := by decide +kernel
theorem dX4_fit_8 : decode cX4_fit 8 = .ok (.iconst 0, 1) := by decide +kernel
theorem dX4_fit_9 : decode cX4_fit 9 = .ok (.ireturn, 1) := by decide +kernel
theorem dX4_fit_10 : decode cX4_fit 10 = .ok (.iconst 0, 1) := by decide +kernel
theorem dX4_fit_11 : decode cX4_fit 11 = .ok (.istore_n 3, 1) := by decide +kernel
theorem dX4_fit_12 : decode cX4_fit 12 = .ok (.iload_n 3, 1) := by decide +kernel
theorem dX4_fit_13 : decode cX4_fit 13 = .ok (.aload_n 0, 1) := by decide +kernel
theorem dX4_fit_14 : decode cX4_fit 14 = .ok (.getfield 24, 3) := by decide +kernel
theorem dX4_fit_17 : decode cX4_fit 17 = .ok (.if_icmp .ge 57, 3) := by decide +kernel
theorem dX4_fit_20 : decode cX4_fit 20 = .ok (.aload_n 0, 1) := by decide +kernel
theorem dX4_fit_21 : decode cX4_fit 21 = .ok (.getfield 9, 3) := by decide +kernel
theorem dX4_fit_24 : decode cX4_fit 24 = .ok (.iload_n 3, 1) := by decide +kernel
theorem dX4_fit_25 : decode cX4_fit 25 = .ok (.iaload, 1) := by decide +kernel
theorem dX4_fit_26 : decode cX4_fit 26 = .ok (.iload_n 1, 1) := by decide +kernel
theorem dX4_fit_27 : decode cX4_fit 27 = .ok (.iconst (-1), 1) := by decide +kernel
theorem dX4_fit_28 : decode cX4_fit 28 = .ok (.ixor, 1) := by decide +kernel
theorem dX4_fit_29 : decode cX4_fit 29 = .ok (.iand, 1) := by decide +kernel
theorem dX4_fit_30 : decode cX4_fit 30 = .ok (.invokestatic 34, 3) := by decide +kernel
theorem dX4_fit_33 : decode cX4_fit 33 = .ok (.istore 4, 2) := by decide +kernel
theorem dX4_fit_35 : decode cX4_fit 35 = .ok (.iload 4, 2) := by decide +kernel
theorem dX4_fit_37 : decode cX4_fit 37 = .ok (.aload_n 0, 1) := by decide +kernel
theorem dX4_fit_38 : decode cX4_fit 38 = .ok (.getfield 15, 3) := by decide +kernel
theorem dX4_fit_41 : decode cX4_fit 41 = .ok (.iload_n 3, 1) := by decide +kernel
theorem dX4_fit_42 : decode cX4_fit 42 = .ok (.iaload, 1) := by decide +kernel
theorem dX4_fit_43 : decode cX4_fit 43 = .ok (.if_icmp .lt 23, 3) := by decide +kernel
theorem dX4_fit_46 : decode cX4_fit 46 = .ok (.aload_n 0, 1) := by decide +kernel
theorem dX4_fit_47 : decode cX4_fit 47 = .ok (.getfield 18, 3) := by decide +kernel
theorem dX4_fit_50 : decode cX4_fit 50 = .ok (.iload_n 3, 1) := by decide +kernel
theorem dX4_fit_51 : decode cX4_fit 51 = .ok (.iaload, 1) := by decide +kernel
theorem dX4_fit_52 : decode cX4_fit 52 = .ok (.ifCond .ne 16, 3) := by decide +kernel
theorem dX4_fit_55 : decode cX4_fit 55 = .ok (.iload 4, 2) := by decide +kernel
theorem dX4_fit_57 : decode cX4_fit 57 = .ok (.aload_n 0, 1) := by decide +kernel
theorem dX4_fit_58 : decode cX4_fit 58 = .ok (.getfield 15, 3) := by decide +kernel
theorem dX4_fit_61 : decode cX4_fit 61 = .ok (.iload_n 3, 1) := by decide +kernel
theorem dX4_fit_62 : decode cX4_fit 62 = .ok (.iaload, 1) := by decide +kernel
theorem dX4_fit_63 : decode cX4_fit 63 = .ok (.if_icmp .le 5, 3) := by decide +kernel
theorem dX4_fit_66 : decode cX4_fit 66 = .ok (.iconst 0, 1) := by decide +kernel
theorem dX4_fit_67 : decode cX4_fit 67 = .ok (.ireturn, 1) := by decide +kernel
theorem dX4_fit_68 : decode cX4_fit 68 = .ok (.iinc 3 1, 3) := by decide +kernel
theorem dX4_fit_71 : decode cX4_fit 71 = .ok (.goto (-59), 3) := by decide +kernel
theorem dX4_fit_74 : decode cX4_fit 74 = .ok (.iconst 1, 1) := by decide +kernel
theorem dX4_fit_75 : decode cX4_fit 75 = .ok (.ireturn, 1) := by decide +kernel
theorem dX4_tally_0 : decode cX4_tally 0 = .ok (.iconst 0, 1) := by decide +kernel
theorem dX4_tally_1 : decode cX4_tally 1 = .ok (.istore_n 2, 1) := by decide +kernel
theorem dX4_tally_2 : decode cX4_tally 2 = .ok (.iload_n 2, 1) := by decide +kernel
theorem dX4_tally_3 : decode cX4_tally 3 = .ok (.bipush 8, 2) := by decide +kernel
theorem dX4_tally_5 : decode cX4_tally 5 = .ok (.if_icmp .ge 16, 3) := by decide +kernel
theorem dX4_tally_8 : decode cX4_tally 8 = .ok (.aload_n 0, 1) := by decide +kernel
theorem dX4_tally_9 : decode cX4_tally 9 = .ok (.getfield 21, 3) := by decide +kernel
theorem dX4_tally_12 : decode cX4_tally 12 = .ok (.iload_n 2, 1) := by decide +kernel
theorem dX4_tally_13 : decode cX4_tally 13 = .ok (.iconst 0, 1) := by decide +kernel
theorem dX4_tally_14 : decode cX4_tally 14 = .ok (.iastore, 1) := by decide +kernel
theorem dX4_tally_15 : decode cX4_tally 15 = .ok (.iinc 2 1, 3) := by decide +kernel
theorem dX4_tally_18 : decode cX4_tally 18 = .ok (.goto (-16), 3) := by decide +kernel
theorem dX4_tally_21 : decode cX4_tally 21 = .ok (.iconst 0, 1) := by decide +kernel
theorem dX4_tally_22 : decode cX4_tally 22 = .ok (.istore_n 2, 1) := by decide +kernel
theorem dX4_tally_23 : decode cX4_tally 23 = .ok (.iconst 0, 1) := by decide +kernel
theorem dX4_tally_24 : decode cX4_tally 24 = .ok (.istore_n 3, 1) := by decide +kernel
theorem dX4_tally_25 : decode cX4_tally 25 = .ok (.iload_n 3, 1) := by decide +kernel
theorem dX4_tally_26 : decode cX4_tally 26 = .ok (.sipush 256, 3) := by decide +kernel
theorem dX4_tally_29 : decode cX4_tally 29 = .ok (.if_icmp .ge 53, 3) := by decide +kernel
theorem dX4_tally_32 : decode cX4_tally 32 = .ok (.aload_n 0, 1) := by decide +kernel
theorem dX4_tally_33 : decode cX4_tally 33 = .ok (.iload_n 3, 1) := by decide +kernel
theorem dX4_tally_34 : decode cX4_tally 34 = .ok (.iload_n 1, 1) := by decide +kernel
theorem dX4_tally_35 : decode cX4_tally 35 = .ok (.invokevirtual 40, 3) := by decide +kernel
theorem dX4_tally_38 : decode cX4_tally 38 = .ok (.ifCond .eq 38, 3) := by decide +kernel
theorem dX4_tally_41 : decode cX4_tally 41 = .ok (.iinc 2 1, 3) := by decide +kernel
theorem dX4_tally_44 : decode cX4_tally 44 = .ok (.iconst 0, 1) := by decide +kernel
theorem dX4_tally_45 : decode cX4_tally 45 = .ok (.istore 4, 2) := by decide +kernel
theorem dX4_tally_47 : decode cX4_tally 47 = .ok (.iload 4, 2) := by decide +kernel
theorem dX4_tally_49 : decode cX4_tally 49 = .ok (.bipush 8, 2) := by decide +kernel
theorem dX4_tally_51 : decode cX4_tally 51 = .ok (.if_icmp .ge 25, 3) := by decide +kernel
theorem dX4_tally_54 : decode cX4_tally 54 = .ok (.aload_n 0, 1) := by decide +kernel
theorem dX4_tally_55 : decode cX4_tally 55 = .ok (.getfield 21, 3) := by decide +kernel
theorem dX4_tally_58 : decode cX4_tally 58 = .ok (.iload 4, 2) := by decide +kernel
theorem dX4_tally_60 : decode cX4_tally 60 = .ok (.dup2, 1) := by decide +kernel
theorem dX4_tally_61 : decode cX4_tally 61 = .ok (.iaload, 1) := by decide +kernel
theorem dX4_tally_62 : decode cX4_tally 62 = .ok (.iload_n 3, 1) := by decide +kernel
theorem dX4_tally_63 : decode cX4_tally 63 = .ok (.iload 4, 2) := by decide +kernel
theorem dX4_tally_65 : decode cX4_tally 65 = .ok (.ishr, 1) := by decide +kernel
theorem dX4_tally_66 : decode cX4_tally 66 = .ok (.iconst 1, 1) := by decide +kernel
theorem dX4_tally_67 : decode cX4_tally 67 = .ok (.iand, 1) := by decide +kernel
theorem dX4_tally_68 : decode cX4_tally 68 = .ok (.iadd, 1) := by decide +kernel
theorem dX4_tally_69 : decode cX4_tally 69 = .ok (.iastore, 1) := by decide +kernel
theorem dX4_tally_70 : decode cX4_tally 70 = .ok (.iinc 4 1, 3) := by decide +kernel
theorem dX4_tally_73 : decode cX4_tally 73 = .ok (.goto (-26), 3) := by decide +kernel
theorem dX4_tally_76 : decode cX4_tally 76 = .ok (.iinc 3 1, 3) := by decide +kernel
theorem dX4_tally_79 : decode cX4_tally 79 = .ok (.goto (-54), 3) := by decide +kernel
theorem dX4_tally_82 : decode cX4_tally 82 = .ok (.iload_n 2, 1) := by decide +kernel
theorem dX4_tally_83 : decode cX4_tally 83 = .ok (.ireturn, 1) := by decide +kernel
theorem dX4_mostLeft_0 : decode cX4_mostLeft 0 = .ok (.aload_n 0, 1) := by decide +kernel
theorem dX4_mostLeft_1 : decode cX4_mostLeft 1 = .ok (.getfield 21, 3) := by decide +kernel
theorem dX4_mostLeft_4 : decode cX4_mostLeft 4 = .ok (.iload_n 1, 1) := by decide +kernel
theorem dX4_mostLeft_5 : decode cX4_mostLeft 5 = .ok (.iaload, 1) := by decide +kernel
theorem dX4_mostLeft_6 : decode cX4_mostLeft 6 = .ok (.iload_n 2, 1) := by decide +kernel
theorem dX4_mostLeft_7 : decode cX4_mostLeft 7 = .ok (.aload_n 0, 1) := by decide +kernel
theorem dX4_mostLeft_8 : decode cX4_mostLeft 8 = .ok (.getfield 21, 3) := by decide +kernel
theorem dX4_mostLeft_11 : decode cX4_mostLeft 11 = .ok (.iload_n 1, 1) := by decide +kernel
theorem dX4_mostLeft_12 : decode cX4_mostLeft 12 = .ok (.iaload, 1) := by decide +kernel
theorem dX4_mostLeft_13 : decode cX4_mostLeft 13 = .ok (.isub, 1) := by decide +kernel
theorem dX4_mostLeft_14 : decode cX4_mostLeft 14 = .ok (.invokestatic 44, 3) := by decide +kernel
theorem dX4_mostLeft_17 : decode cX4_mostLeft 17 = .ok (.ireturn, 1) := by decide +kernel
theorem dX5_init_0 : decode cX5_init 0 = .ok (.aload_n 0, 1) := by decide +kernel
theorem dX5_init_1 : decode cX5_init 1 = .ok (.invokespecial 3, 3) := by decide +kernel
theorem dX5_init_4 : decode cX5_init 4 = .ok (.aload_n 0, 1) := by decide +kernel
theorem dX5_init_5 : decode cX5_init 5 = .ok (.new 9, 3) := by decide +kernel
theorem dX5_init_8 : decode cX5_init 8 = .ok (.dup, 1) := by decide +kernel
theorem dX5_init_9 : decode cX5_init 9 = .ok (.invokespecial 11, 3) := by decide +kernel
theorem dX5_init_12 : decode cX5_init 12 = .ok (.putfield 12, 3) := by decide +kernel
theorem dX5_init_15 : decode cX5_init 15 = .ok (.return_, 1) := by decide +kernel
theorem dX5_follow_0 : decode cX5_follow 0 = .ok (.aload_n 0, 1) := by decide +kernel
theorem dX5_follow_1 : decode cX5_follow 1 = .ok (.getfield 12, 3) := by decide +kernel
theorem dX5_follow_4 : decode cX5_follow 4 = .ok (.aload_n 2, 1) := by decide +kernel
theorem dX5_follow_5 : decode cX5_follow 5 = .ok (.invokevirtual 18, 3) := by decide +kernel
theorem dX5_follow_8 : decode cX5_follow 8 = .ok (.aload_n 0, 1) := by decide +kernel
theorem dX5_follow_9 : decode cX5_follow 9 = .ok (.iconst 0, 1) := by decide +kernel
theorem dX5_follow_10 : decode cX5_follow 10 = .ok (.putfield 22, 3) := by decide +kernel
theorem dX5_follow_13 : decode cX5_follow 13 = .ok (.aload_n 0, 1) := by decide +kernel
theorem dX5_follow_14 : decode cX5_follow 14 = .ok (.iconst 0, 1) := by decide +kernel
theorem dX5_follow_15 : decode cX5_follow 15 = .ok (.putfield 26, 3) := by decide +kernel
theorem dX5_follow_18 : decode cX5_follow 18 = .ok (.aload_n 0, 1) := by decide +kernel
theorem dX5_follow_19 : decode cX5_follow 19 = .ok (.bipush (-6), 2) := by decide +kernel
theorem dX5_follow_21 : decode cX5_follow 21 = .ok (.putfield 29, 3) := by decide +kernel
theorem dX5_follow_24 : decode cX5_follow 24 = .ok (.iconst 0, 1) := by decide +kernel
theorem dX5_follow_25 : decode cX5_follow 25 = .ok (.istore 4, 2) := by decide +kernel
theorem dX5_follow_27 : decode cX5_follow 27 = .ok (.aload_n 0, 1) := by decide +kernel
theorem dX5_follow_28 : decode cX5_follow 28 = .ok (.iconst 0, 1) := by decide +kernel
theorem dX5_follow_29 : decode cX5_follow 29 = .ok (.putfield 32, 3) := by decide +kernel
theorem dX5_follow_32 : decode cX5_follow 32 = .ok (.aload_n 0, 1) := by decide +kernel
theorem dX5_follow_33 : decode cX5_follow 33 = .ok (.getfield 32, 3) := by decide +kernel
theorem dX5_follow_36 : decode cX5_follow 36 = .ok (.bipush 60, 2) := by decide +kernel
theorem dX5_follow_38 : decode cX5_follow 38 = .ok (.if_icmp .ge 86, 3) := by decide +kernel
theorem dX5_follow_41 : decode cX5_follow 41 = .ok (.iload 4, 2) := by decide +kernel
theorem dX5_follow_43 : decode cX5_follow 43 = .ok (.aload_n 1, 1) := by decide +kernel
theorem dX5_follow_44 : decode cX5_follow 44 = .ok (.getfield 35, 3) := by decide +kernel
theorem dX5_follow_47 : decode cX5_follow 47 = .ok (.if_icmp .ge 77, 3) := by decide +kernel
theorem dX5_follow_50 : decode cX5_follow 50 = .ok (.aload_n 0, 1) := by decide +kernel
theorem dX5_follow_51 : decode cX5_follow 51 = .ok (.aload_n 1, 1) := by decide +kernel
theorem dX5_follow_52 : decode cX5_follow 52 = .ok (.iload 4, 2) := by decide +kernel
theorem dX5_follow_54 : decode cX5_follow 54 = .ok (.invokevirtual 40, 3) := by decide +kernel
theorem dX5_follow_57 : decode cX5_follow 57 = .ok (.aload_n 0, 1) := by decide +kernel
theorem dX5_follow_58 : decode cX5_follow 58 = .ok (.aload_n 0, 1) := by decide +kernel
theorem dX5_follow_59 : decode cX5_follow 59 = .ok (.getfield 12, 3) := by decide +kernel
theorem dX5_follow_62 : decode cX5_follow 62 = .ok (.aload_n 0, 1) := by decide +kernel
theorem dX5_follow_63 : decode cX5_follow 63 = .ok (.getfield 44, 3) := by decide +kernel
theorem dX5_follow_66 : decode cX5_follow 66 = .ok (.aload_n 0, 1) := by decide +kernel
theorem dX5_follow_67 : decode cX5_follow 67 = .ok (.getfield 47, 3) := by decide +kernel
theorem dX5_follow_70 : decode cX5_follow 70 = .ok (.aload_n 0, 1) := by decide +kernel
theorem dX5_follow_71 : decode cX5_follow 71 = .ok (.getfield 50, 3) := by decide +kernel
theorem dX5_follow_74 : decode cX5_follow 74 = .ok (.invokevirtual 53, 3) := by decide +kernel
theorem dX5_follow_77 : decode cX5_follow 77 = .ok (.putfield 22, 3) := by decide +kernel
theorem dX5_follow_80 : decode cX5_follow 80 = .ok (.aload_n 0, 1) := by decide +kernel
theorem dX5_follow_81 : decode cX5_follow 81 = .ok (.getfield 22, 3) := by decide +kernel
theorem dX5_follow_84 : decode cX5_follow 84 = .ok (.ifCond .eq 4, 3) := by decide +kernel
theorem dX5_follow_87 : decode cX5_follow 87 = .ok (.return_, 1) := by decide +kernel
theorem dX5_follow_88 : decode cX5_follow 88 = .ok (.aload_n 0, 1) := by decide +kernel
theorem dX5_follow_89 : decode cX5_follow 89 = .ok (.getfield 44, 3) := by decide +kernel
theorem dX5_follow_92 : decode cX5_follow 92 = .ok (.bipush 7, 2) := by decide +kernel
theorem dX5_follow_94 : decode cX5_follow 94 = .ok (.if_icmp .ne 8, 3) := by decide +kernel
theorem dX5_follow_97 : decode cX5_follow 97 = .ok (.aload_n 0, 1) := by decide +kernel
theorem dX5_follow_98 : decode cX5_follow 98 = .ok (.iload_n 3, 1) := by decide +kernel
theorem dX5_follow_99 : decode cX5_follow 99 = .ok (.invokevirtual 57, 3) := by decide +kernel
theorem dX5_follow_102 : decode cX5_follow 102 = .ok (.iload 4, 2) := by decide +kernel
theorem dX5_follow_104 : decode cX5_follow 104 = .ok (.aload_n 0, 1) := by decide +kernel
theorem dX5_follow_105 : decode cX5_follow 105 = .ok (.getfield 61, 3) := by decide +kernel
theorem dX5_follow_108 : decode cX5_follow 108 = .ok (.iadd, 1) := by decide +kernel
theorem dX5_follow_109 : decode cX5_follow 109 = .ok (.istore 4, 2) := by decide +kernel
theorem dX5_follow_111 : decode cX5_follow 111 = .ok (.aload_n 0, 1) := by decide +kernel
theorem dX5_follow_112 : decode cX5_follow 112 = .ok (.dup, 1) := by decide +kernel
theorem dX5_follow_113 : decode cX5_follow 113 = .ok (.getfield 32, 3) := by decide +kernel
theorem dX5_follow_116 : decode cX5_follow 116 = .ok (.iconst 1, 1) := by decide +kernel
theorem dX5_follow_117 : decode cX5_follow 117 = .ok (.iadd, 1) := by decide +kernel
theorem dX5_follow_118 : decode cX5_follow 118 = .ok (.putfield 32, 3) := by decide +kernel
theorem dX5_follow_121 : decode cX5_follow 121 = .ok (.goto (-89), 3) := by decide +kernel
theorem dX5_follow_124 : decode cX5_follow 124 = .ok (.return_, 1) := by decide +kernel
theorem dX5_endMonth_0 : decode cX5_endMonth 0 = .ok (.aload_n 0, 1) := by decide +kernel
theorem dX5_endMonth_1 : decode cX5_endMonth 1 = .ok (.getfield 29, 3) := by decide +kernel
theorem dX5_endMonth_4 : decode cX5_endMonth 4 = .ok (.bipush (-6), 2) := by decide +kernel
theorem dX5_endMonth_6 : decode cX5_endMonth 6 = .ok (.if_icmp .ne 22, 3) := by decide +kernel
theorem dX5_endMonth_9 : decode cX5_endMonth 9 = .ok (.aload_n 0, 1) := by decide +kernel
theorem dX5_endMonth_10 : decode cX5_endMonth 10 = .ok (.getfield 12, 3) := by decide +kernel
theorem dX5_endMonth_13 : decode cX5_endMonth 13 = .ok (.invokevirtual 64, 3) := by decide +kernel
theorem dX5_endMonth_16 : decode cX5_endMonth 16 = .ok (.iload_n 1, 1) := by decide +kernel
theorem dX5_endMonth_17 : decode cX5_endMonth 17 = .ok (.if_icmp .ge 11, 3) := by decide +kernel
theorem dX5_endMonth_20 : decode cX5_endMonth 20 = .ok (.aload_n 0, 1) := by decide +kernel
theorem dX5_endMonth_21 : decode cX5_endMonth 21 = .ok (.aload_n 0, 1) := by decide +kernel
theorem dX5_endMonth_22 : decode cX5_endMonth 22 = .ok (.getfield 26, 3) := by decide +kernel
theorem dX5_endMonth_25 : decode cX5_endMonth 25 = .ok (.putfield 29, 3) := by decide +kernel
theorem dX5_endMonth_28 : decode cX5_endMonth 28 = .ok (.aload_n 0, 1) := by decide +kernel
theorem dX5_endMonth_29 : decode cX5_endMonth 29 = .ok (.dup, 1) := by decide +kernel
theorem dX5_endMonth_30 : decode cX5_endMonth 30 = .ok (.getfield 26, 3) := by decide +kernel
theorem dX5_endMonth_33 : decode cX5_endMonth 33 = .ok (.iconst 1, 1) := by decide +kernel
theorem dX5_endMonth_34 : decode cX5_endMonth 34 = .ok (.iadd, 1) := by decide +kernel
theorem dX5_endMonth_35 : decode cX5_endMonth 35 = .ok (.putfield 26, 3) := by decide +kernel
theorem dX5_endMonth_38 : decode cX5_endMonth 38 = .ok (.return_, 1) := by decide +kernel
theorem dX5_read_0 : decode cX5_read 0 = .ok (.aload_n 1, 1) := by decide +kernel
theorem dX5_read_1 : decode cX5_read 1 = .ok (.iload_n 2, 1) := by decide +kernel
theorem dX5_read_2 : decode cX5_read 2 = .ok (.invokevirtual 68, 3) := by decide +kernel
theorem dX5_read_5 : decode cX5_read 5 = .ok (.istore_n 3, 1) := by decide +kernel
theorem dX5_read_6 : decode cX5_read 6 = .ok (.aload_n 1, 1) := by decide +kernel
theorem dX5_read_7 : decode cX5_read 7 = .ok (.iload_n 2, 1) := by decide +kernel
theorem dX5_read_8 : decode cX5_read 8 = .ok (.iconst 1, 1) := by decide +kernel
theorem dX5_read_9 : decode cX5_read 9 = .ok (.iadd, 1) := by decide +kernel
theorem dX5_read_10 : decode cX5_read 10 = .ok (.invokevirtual 68, 3) := by decide +kernel
theorem dX5_read_13 : decode cX5_read 13 = .ok (.istore 4, 2) := by decide +kernel
theorem dX5_read_15 : decode cX5_read 15 = .ok (.aload_n 0, 1) := by decide +kernel
theorem dX5_read_16 : decode cX5_read 16 = .ok (.iload_n 3, 1) := by decide +kernel
theorem dX5_read_17 : decode cX5_read 17 = .ok (.iload 4, 2) := by decide +kernel
theorem dX5_read_19 : decode cX5_read 19 = .ok (.invokestatic 72, 3) := by decide +kernel
theorem dX5_read_22 : decode cX5_read 22 = .ok (.putfield 44, 3) := by decide +kernel
theorem dX5_read_25 : decode cX5_read 25 = .ok (.aload_n 0, 1) := by decide +kernel
theorem dX5_read_26 : decode cX5_read 26 = .ok (.aload_n 0, 1) := by decide +kernel
theorem dX5_read_27 : decode cX5_read 27 = .ok (.getfield 44, 3) := by decide +kernel
theorem dX5_read_30 : decode cX5_read 30 = .ok (.bipush 7, 2) := by decide +kernel
theorem dX5_read_32 : decode cX5_read 32 = .ok (.if_icmp .ne 7, 3) := by decide +kernel
theorem dX5_read_35 : decode cX5_read 35 = .ok (.iconst 1, 1) := by decide +kernel
theorem dX5_read_36 : decode cX5_read 36 = .ok (.goto 15, 3) := by decide +kernel
theorem dX5_read_39 : decode cX5_read 39 = .ok (.aload_n 0, 1) := by decide +kernel
theorem dX5_read_40 : decode cX5_read 40 = .ok (.getfield 44, 3) := by decide +kernel
theorem dX5_read_43 : decode cX5_read 43 = .ok (.ifCond .ne 7, 3) := by decide +kernel
theorem dX5_read_46 : decode cX5_read 46 = .ok (.iconst 2, 1) := by decide +kernel
theorem dX5_read_47 : decode cX5_read 47 = .ok (.goto 4, 3) := by decide +kernel
theorem dX5_read_50 : decode cX5_read 50 = .ok (.iconst 3, 1) := by decide +kernel
theorem dX5_read_51 : decode cX5_read 51 = .ok (.putfield 61, 3) := by decide +kernel
theorem dX5_read_54 : decode cX5_read 54 = .ok (.aload_n 0, 1) := by decide +kernel
theorem dX5_read_55 : decode cX5_read 55 = .ok (.aload_n 0, 1) := by decide +kernel
theorem dX5_read_56 : decode cX5_read 56 = .ok (.getfield 61, 3) := by decide +kernel
theorem dX5_read_59 : decode cX5_read 59 = .ok (.iconst 3, 1) := by decide +kernel
theorem dX5_read_60 : decode cX5_read 60 = .ok (.if_icmp .ge 7, 3) := by decide +kernel
theorem dX5_read_63 : decode cX5_read 63 = .ok (.iconst 0, 1) := by decide +kernel
theorem dX5_read_64 : decode cX5_read 64 = .ok (.goto 21, 3) := by decide +kernel
theorem dX5_read_67 : decode cX5_read 67 = .ok (.aload_n 0, 1) := by decide +kernel
theorem dX5_read_68 : decode cX5_read 68 = .ok (.getfield 44, 3) := by decide +kernel
theorem dX5_read_71 : decode cX5_read 71 = .ok (.bipush 6, 2) := by decide +kernel
theorem dX5_read_73 : decode cX5_read 73 = .ok (.if_icmp .ne 8, 3) := by decide +kernel
theorem dX5_read_76 : decode cX5_read 76 = .ok (.iload 4, 2) := by decide +kernel
theorem dX5_read_78 : decode cX5_read 78 = .ok (.goto 4, 3) := by decide +kernel
theorem dX5_read_81 : decode cX5_read 81 = .ok (.iload_n 3, 1) := by decide +kernel
theorem dX5_read_82 : decode cX5_read 82 = .ok (.bipush 65, 2) := by decide +kernel
theorem dX5_read_84 : decode cX5_read 84 = .ok (.isub, 1) := by decide +kernel
theorem dX5_read_85 : decode cX5_read 85 = .ok (.putfield 47, 3) := by decide +kernel
theorem dX5_read_88 : decode cX5_read 88 = .ok (.aload_n 0, 1) := by decide +kernel
theorem dX5_read_89 : decode cX5_read 89 = .ok (.aload_n 1, 1) := by decide +kernel
theorem dX5_read_90 : decode cX5_read 90 = .ok (.iload_n 2, 1) := by decide +kernel
theorem dX5_read_91 : decode cX5_read 91 = .ok (.aload_n 0, 1) := by decide +kernel
theorem dX5_read_92 : decode cX5_read 92 = .ok (.getfield 61, 3) := by decide +kernel
theorem dX5_read_95 : decode cX5_read 95 = .ok (.iadd, 1) := by decide +kernel
theorem dX5_read_96 : decode cX5_read 96 = .ok (.iconst 1, 1) := by decide +kernel
theorem dX5_read_97 : decode cX5_read 97 = .ok (.isub, 1) := by decide +kernel
theorem dX5_read_98 : decode cX5_read 98 = .ok (.invokevirtual 68, 3) := by decide +kernel
theorem dX5_read_101 : decode cX5_read 101 = .ok (.aload_n 0, 1) := by decide +kernel
theorem dX5_read_102 : decode cX5_read 102 = .ok (.getfield 44, 3) := by decide +kernel
theorem dX5_read_105 : decode cX5_read 105 = .ok (.iconst 5, 1) := by decide +kernel
theorem dX5_read_106 : decode cX5_read 106 = .ok (.if_icmp .ne 8, 3) := by decide +kernel
theorem dX5_read_109 : decode cX5_read 109 = .ok (.bipush 65, 2) := by decide +kernel
theorem dX5_read_111 : decode cX5_read 111 = .ok (.goto 5, 3) := by decide +kernel
theorem dX5_read_114 : decode cX5_read 114 = .ok (.bipush 48, 2) := by decide +kernel
theorem dX5_read_116 : decode cX5_read 116 = .ok (.isub, 1) := by decide +kernel
theorem dX5_read_117 : decode cX5_read 117 = .ok (.putfield 50, 3) := by decide +kernel
theorem dX5_read_120 : decode cX5_read 120 = .ok (.return_, 1) := by decide +kernel
theorem dX5_kindOf_0 : decode cX5_kindOf 0 = .ok (.iload_n 0, 1) := by decide +kernel
theorem dX5_kindOf_1 : decode cX5_kindOf 1 = .ok (.lookupswitch 43 #[(33, 40), (43, 38), (46, 35)], 35) := by decide +kernel
theorem dX5_kindOf_36 : decode cX5_kindOf 36 = .ok (.bipush 7, 2) := by decide +kernel
theorem dX5_kindOf_38 : decode cX5_kindOf 38 = .ok (.ireturn, 1) := by decide +kernel
theorem dX5_kindOf_39 : decode cX5_kindOf 39 = .ok (.iconst 0, 1) := by decide +kernel
theorem dX5_kindOf_40 : decode cX5_kindOf 40 = .ok (.ireturn, 1) := by decide +kernel
theorem dX5_kindOf_41 : decode cX5_kindOf 41 = .ok (.bipush 6, 2) := by decide +kernel
theorem dX5_kindOf_43 : decode cX5_kindOf 43 = .ok (.ireturn, 1) := by decide +kernel
theorem dX5_kindOf_44 : decode cX5_kindOf 44 = .ok (.iload_n 1, 1) := by decide +kernel
theorem dX5_kindOf_45 : decode cX5_kindOf 45 = .ok (.invokestatic 76, 3) := by decide +kernel
theorem dX5_kindOf_48 : decode cX5_kindOf 48 = .ok (.ireturn, 1) := by decide +kernel
theorem dX5_kindOfDeed_0 : decode cX5_kindOfDeed 0 = .ok (.iload_n 0, 1) := by decide +kernel
theorem dX5_kindOfDeed_1 : decode cX5_kindOfDeed 1 = .ok (.lookupswitch 41 #[(36, 35), (47, 37), (62, 39)], 35) := by decide +kernel
theorem dX5_kindOfDeed_36 : decode cX5_kindOfDeed 36 = .ok (.iconst 2, 1) := by decide +kernel
theorem dX5_kindOfDeed_37 : decode cX5_kindOfDeed 37 = .ok (.ireturn, 1) := by decide +kernel
theorem dX5_kindOfDeed_38 : decode cX5_kindOfDeed 38 = .ok (.iconst 4, 1) := by decide +kernel
theorem dX5_kindOfDeed_39 : decode cX5_kindOfDeed 39 = .ok (.ireturn, 1) := by decide +kernel
theorem dX5_kindOfDeed_40 : decode cX5_kindOfDeed 40 = .ok (.iconst 5, 1) := by decide +kernel
theorem dX5_kindOfDeed_41 : decode cX5_kindOfDeed 41 = .ok (.ireturn, 1) := by decide +kernel
theorem dX5_kindOfDeed_42 : decode cX5_kindOfDeed 42 = .ok (.iconst 1, 1) := by decide +kernel
theorem dX5_kindOfDeed_43 : decode cX5_kindOfDeed 43 = .ok (.ireturn, 1) := by decide +kernel
theorem dX6_init_0 : decode cX6_init 0 = .ok (.aload_n 0, 1) := by decide +kernel
theorem dX6_init_1 : decode cX6_init 1 = .ok (.invokespecial 3, 3) := by decide +kernel
theorem dX6_init_4 : decode cX6_init 4 = .ok (.aload_n 0, 1) := by decide +kernel
theorem dX6_init_5 : decode cX6_init 5 = .ok (.iconst 2, 1) := by decide +kernel
theorem dX6_init_6 : decode cX6_init 6 = .ok (.bipush 69, 2) := by decide +kernel
theorem dX6_init_8 : decode cX6_init 8 = .ok (.multianewarray 11 2, 4) := by decide +kernel
theorem dX6_init_12 : decode cX6_init 12 = .ok (.putfield 13, 3) := by decide +kernel
theorem dX6_init_15 : decode cX6_init 15 = .ok (.return_, 1) := by decide +kernel
theorem dX6_scaledMean_0 : decode cX6_scaledMean 0 = .ok (.aload_n 0, 1) := by decide +kernel
theorem dX6_scaledMean_1 : decode cX6_scaledMean 1 = .ok (.getfield 13, 3) := by decide +kernel
theorem dX6_scaledMean_4 : decode cX6_scaledMean 4 = .ok (.iconst 0, 1) := by decide +kernel
theorem dX6_scaledMean_5 : decode cX6_scaledMean 5 = .ok (.aaload, 1) := by decide +kernel
theorem dX6_scaledMean_6 : decode cX6_scaledMean 6 = .ok (.astore 4, 2) := by decide +kernel
theorem dX6_scaledMean_8 : decode cX6_scaledMean 8 = .ok (.aload_n 0, 1) := by decide +kernel
theorem dX6_scaledMean_9 : decode cX6_scaledMean 9 = .ok (.getfield 13, 3) := by decide +kernel
theorem dX6_scaledMean_12 : decode cX6_scaledMean 12 = .ok (.iconst 1, 1) := by decide +kernel
theorem dX6_scaledMean_13 : decode cX6_scaledMean 13 = .ok (.aaload, 1) := by decide +kernel
theorem dX6_scaledMean_14 : decode cX6_scaledMean 14 = .ok (.astore 5, 2) := by decide +kernel
theorem dX6_scaledMean_16 : decode cX6_scaledMean 16 = .ok (.iconst 0, 1) := by decide +kernel
theorem dX6_scaledMean_17 : decode cX6_scaledMean 17 = .ok (.istore 6, 2) := by decide +kernel
theorem dX6_scaledMean_19 : decode cX6_scaledMean 19 = .ok (.iload 6, 2) := by decide +kernel
theorem dX6_scaledMean_21 : decode cX6_scaledMean 21 = .ok (.iload_n 1, 1) := by decide +kernel
theorem dX6_scaledMean_22 : decode cX6_scaledMean 22 = .ok (.iload_n 2, 1) := by decide +kernel
theorem dX6_scaledMean_23 : decode cX6_scaledMean 23 = .ok (.iadd, 1) := by decide +kernel
theorem dX6_scaledMean_24 : decode cX6_scaledMean 24 = .ok (.if_icmp .gt 17, 3) := by decide +kernel
theorem dX6_scaledMean_27 : decode cX6_scaledMean 27 = .ok (.aload 4, 2) := by decide +kernel
theorem dX6_scaledMean_29 : decode cX6_scaledMean 29 = .ok (.iload 6, 2) := by decide +kernel
theorem dX6_scaledMean_31 : decode cX6_scaledMean 31 = .ok (.iload 6, 2) := by decide +kernel
theorem dX6_scaledMean_33 : decode cX6_scaledMean 33 = .ok (.i2l, 1) := by decide +kernel
theorem dX6_scaledMean_34 : decode cX6_scaledMean 34 = .ok (.lastore, 1) := by decide +kernel
theorem dX6_scaledMean_35 : decode cX6_scaledMean 35 = .ok (.iinc 6 1, 3) := by decide +kernel
theorem dX6_scaledMean_38 : decode cX6_scaledMean 38 = .ok (.goto (-19), 3) := by decide +kernel
theorem dX6_scaledMean_41 : decode cX6_scaledMean 41 = .ok (.lconst 1, 1) := by decide +kernel
theorem dX6_scaledMean_42 : decode cX6_scaledMean 42 = .ok (.lstore 6, 2) := by decide +kernel
theorem dX6_scaledMean_44 : decode cX6_scaledMean 44 = .ok (.iconst 1, 1) := by decide +kernel
theorem dX6_scaledMean_45 : decode cX6_scaledMean 45 = .ok (.istore 8, 2) := by decide +kernel
theorem dX6_scaledMean_47 : decode cX6_scaledMean 47 = .ok (.iload 8, 2) := by decide +kernel
theorem dX6_scaledMean_49 : decode cX6_scaledMean 49 = .ok (.iload_n 2, 1) := by decide +kernel
theorem dX6_scaledMean_50 : decode cX6_scaledMean 50 = .ok (.if_icmp .gt 95, 3) := by decide +kernel
theorem dX6_scaledMean_53 : decode cX6_scaledMean 53 = .ok (.lload 6, 2) := by decide +kernel
theorem dX6_scaledMean_55 : decode cX6_scaledMean 55 = .ok (.ldc2_w 16, 3) := by decide +kernel
theorem dX6_scaledMean_58 : decode cX6_scaledMean 58 = .ok (.lmul, 1) := by decide +kernel
theorem dX6_scaledMean_59 : decode cX6_scaledMean 59 = .ok (.lstore 6, 2) := by decide +kernel
theorem dX6_scaledMean_61 : decode cX6_scaledMean 61 = .ok (.iconst 0, 1) := by decide +kernel
theorem dX6_scaledMean_62 : decode cX6_scaledMean 62 = .ok (.istore 9, 2) := by decide +kernel
theorem dX6_scaledMean_64 : decode cX6_scaledMean 64 = .ok (.iload 9, 2) := by decide +kernel
theorem dX6_scaledMean_66 : decode cX6_scaledMean 66 = .ok (.iload_n 1, 1) := by decide +kernel
theorem dX6_scaledMean_67 : decode cX6_scaledMean 67 = .ok (.iload_n 2, 1) := by decide +kernel
theorem dX6_scaledMean_68 : decode cX6_scaledMean 68 = .ok (.iadd, 1) := by decide +kernel
theorem dX6_scaledMean_69 : decode cX6_scaledMean 69 = .ok (.iload 8, 2) := by decide +kernel
theorem dX6_scaledMean_71 : decode cX6_scaledMean 71 = .ok (.isub, 1) := by decide +kernel
theorem dX6_scaledMean_72 : decode cX6_scaledMean 72 = .ok (.if_icmp .gt 55, 3) := by decide +kernel
theorem dX6_scaledMean_75 : decode cX6_scaledMean 75 = .ok (.iload_n 3, 1) := by decide +kernel
theorem dX6_scaledMean_76 : decode cX6_scaledMean 76 = .ok (.i2l, 1) := by decide +kernel
theorem dX6_scaledMean_77 : decode cX6_scaledMean 77 = .ok (.aload 4, 2) := by decide +kernel
theorem dX6_scaledMean_79 : decode cX6_scaledMean 79 = .ok (.iconst 0, 1) := by decide +kernel
theorem dX6_scaledMean_80 : decode cX6_scaledMean 80 = .ok (.iload 9, 2) := by decide +kernel
theorem dX6_scaledMean_82 : decode cX6_scaledMean 82 = .ok (.iconst 3, 1) := by decide +kernel
theorem dX6_scaledMean_83 : decode cX6_scaledMean 83 = .ok (.isub, 1) := by decide +kernel
theorem dX6_scaledMean_84 : decode cX6_scaledMean 84 = .ok (.invokestatic 18, 3) := by decide +kernel
theorem dX6_scaledMean_87 : decode cX6_scaledMean 87 = .ok (.laload, 1) := by decide +kernel
theorem dX6_scaledMean_88 : decode cX6_scaledMean 88 = .ok (.lmul, 1) := by decide +kernel
theorem dX6_scaledMean_89 : decode cX6_scaledMean 89 = .ok (.bipush 10, 2) := by decide +kernel
theorem dX6_scaledMean_91 : decode cX6_scaledMean 91 = .ok (.iload_n 3, 1) := by decide +kernel
theorem dX6_scaledMean_92 : decode cX6_scaledMean 92 = .ok (.isub, 1) := by decide +kernel
theorem dX6_scaledMean_93 : decode cX6_scaledMean 93 = .ok (.i2l, 1) := by decide +kernel
theorem dX6_scaledMean_94 : decode cX6_scaledMean 94 = .ok (.aload 4, 2) := by decide +kernel
theorem dX6_scaledMean_96 : decode cX6_scaledMean 96 = .ok (.iload 9, 2) := by decide +kernel
theorem dX6_scaledMean_98 : decode cX6_scaledMean 98 = .ok (.iconst 1, 1) := by decide +kernel
theorem dX6_scaledMean_99 : decode cX6_scaledMean 99 = .ok (.iadd, 1) := by decide +kernel
theorem dX6_scaledMean_100 : decode cX6_scaledMean 100 = .ok (.laload, 1) := by decide +kernel
theorem dX6_scaledMean_101 : decode cX6_scaledMean 101 = .ok (.lmul, 1) := by decide +kernel
theorem dX6_scaledMean_102 : decode cX6_scaledMean 102 = .ok (.ladd, 1) := by decide +kernel
theorem dX6_scaledMean_103 : decode cX6_scaledMean 103 = .ok (.lstore 10, 2) := by decide +kernel
theorem dX6_scaledMean_105 : decode cX6_scaledMean 105 = .ok (.aload 5, 2) := by decide +kernel
theorem dX6_scaledMean_107 : decode cX6_scaledMean 107 = .ok (.iload 9, 2) := by decide +kernel
theorem dX6_scaledMean_109 : decode cX6_scaledMean 109 = .ok (.iload 9, 2) := by decide +kernel
theorem dX6_scaledMean_111 : decode cX6_scaledMean 111 = .ok (.i2l, 1) := by decide +kernel
theorem dX6_scaledMean_112 : decode cX6_scaledMean 112 = .ok (.lload 6, 2) := by decide +kernel
theorem dX6_scaledMean_114 : decode cX6_scaledMean 114 = .ok (.lmul, 1) := by decide +kernel
theorem dX6_scaledMean_115 : decode cX6_scaledMean 115 = .ok (.lload 10, 2) := by decide +kernel
theorem dX6_scaledMean_117 : decode cX6_scaledMean 117 = .ok (.invokestatic 24, 3) := by decide +kernel
theorem dX6_scaledMean_120 : decode cX6_scaledMean 120 = .ok (.lastore, 1) := by decide +kernel
theorem dX6_scaledMean_121 : decode cX6_scaledMean 121 = .ok (.iinc 9 1, 3) := by decide +kernel
theorem dX6_scaledMean_124 : decode cX6_scaledMean 124 = .ok (.goto (-60), 3) := by decide +kernel
theorem dX6_scaledMean_127 : decode cX6_scaledMean 127 = .ok (.aload 4, 2) := by decide +kernel
theorem dX6_scaledMean_129 : decode cX6_scaledMean 129 = .ok (.astore 9, 2) := by decide +kernel
theorem dX6_scaledMean_131 : decode cX6_scaledMean 131 = .ok (.aload 5, 2) := by decide +kernel
theorem dX6_scaledMean_133 : decode cX6_scaledMean 133 = .ok (.astore 4, 2) := by decide +kernel
theorem dX6_scaledMean_135 : decode cX6_scaledMean 135 = .ok (.aload 9, 2) := by decide +kernel
theorem dX6_scaledMean_137 : decode cX6_scaledMean 137 = .ok (.astore 5, 2) := by decide +kernel
theorem dX6_scaledMean_139 : decode cX6_scaledMean 139 = .ok (.iinc 8 1, 3) := by decide +kernel
theorem dX6_scaledMean_142 : decode cX6_scaledMean 142 = .ok (.goto (-95), 3) := by decide +kernel
theorem dX6_scaledMean_145 : decode cX6_scaledMean 145 = .ok (.aload 4, 2) := by decide +kernel
theorem dX6_scaledMean_147 : decode cX6_scaledMean 147 = .ok (.iload_n 1, 1) := by decide +kernel
theorem dX6_scaledMean_148 : decode cX6_scaledMean 148 = .ok (.laload, 1) := by decide +kernel
theorem dX6_scaledMean_149 : decode cX6_scaledMean 149 = .ok (.lreturn, 1) := by decide +kernel
theorem dX7_init_0 : decode cX7_init 0 = .ok (.aload_n 0, 1) := by decide +kernel
theorem dX7_init_1 : decode cX7_init 1 = .ok (.invokespecial 1, 3) := by decide +kernel
theorem dX7_init_4 : decode cX7_init 4 = .ok (.aload_n 0, 1) := by decide +kernel
theorem dX7_init_5 : decode cX7_init 5 = .ok (.new 7, 3) := by decide +kernel
theorem dX7_init_8 : decode cX7_init 8 = .ok (.dup, 1) := by decide +kernel
theorem dX7_init_9 : decode cX7_init 9 = .ok (.invokespecial 9, 3) := by decide +kernel
theorem dX7_init_12 : decode cX7_init 12 = .ok (.putfield 10, 3) := by decide +kernel
theorem dX7_init_15 : decode cX7_init 15 = .ok (.aload_n 0, 1) := by decide +kernel
theorem dX7_init_16 : decode cX7_init 16 = .ok (.new 16, 3) := by decide +kernel
theorem dX7_init_19 : decode cX7_init 19 = .ok (.dup, 1) := by decide +kernel
theorem dX7_init_20 : decode cX7_init 20 = .ok (.invokespecial 18, 3) := by decide +kernel
theorem dX7_init_23 : decode cX7_init 23 = .ok (.putfield 19, 3) := by decide +kernel
theorem dX7_init_26 : decode cX7_init 26 = .ok (.aload_n 0, 1) := by decide +kernel
theorem dX7_init_27 : decode cX7_init 27 = .ok (.new 23, 3) := by decide +kernel
theorem dX7_init_30 : decode cX7_init 30 = .ok (.dup, 1) := by decide +kernel
theorem dX7_init_31 : decode cX7_init 31 = .ok (.invokespecial 25, 3) := by decide +kernel
theorem dX7_init_34 : decode cX7_init 34 = .ok (.putfield 26, 3) := by decide +kernel
theorem dX7_init_37 : decode cX7_init 37 = .ok (.aload_n 0, 1) := by decide +kernel
theorem dX7_init_38 : decode cX7_init 38 = .ok (.new 30, 3) := by decide +kernel
theorem dX7_init_41 : decode cX7_init 41 = .ok (.dup, 1) := by decide +kernel
theorem dX7_init_42 : decode cX7_init 42 = .ok (.invokespecial 32, 3) := by decide +kernel
theorem dX7_init_45 : decode cX7_init 45 = .ok (.putfield 33, 3) := by decide +kernel
theorem dX7_init_48 : decode cX7_init 48 = .ok (.aload_n 0, 1) := by decide +kernel
theorem dX7_init_49 : decode cX7_init 49 = .ok (.new 37, 3) := by decide +kernel
theorem dX7_init_52 : decode cX7_init 52 = .ok (.dup, 1) := by decide +kernel
theorem dX7_init_53 : decode cX7_init 53 = .ok (.invokespecial 39, 3) := by decide +kernel
theorem dX7_init_56 : decode cX7_init 56 = .ok (.putfield 40, 3) := by decide +kernel
theorem dX7_init_59 : decode cX7_init 59 = .ok (.aload_n 0, 1) := by decide +kernel
theorem dX7_init_60 : decode cX7_init 60 = .ok (.new 44, 3) := by decide +kernel
theorem dX7_init_63 : decode cX7_init 63 = .ok (.dup, 1) := by decide +kernel
theorem dX7_init_64 : decode cX7_init 64 = .ok (.invokespecial 46, 3) := by decide +kernel
theorem dX7_init_67 : decode cX7_init 67 = .ok (.putfield 47, 3) := by decide +kernel
theorem dX7_init_70 : decode cX7_init 70 = .ok (.aload_n 0, 1) := by decide +kernel
theorem dX7_init_71 : decode cX7_init 71 = .ok (.iconst 2, 1) := by decide +kernel
theorem dX7_init_72 : decode cX7_init 72 = .ok (.anewarray 51, 3) := by decide +kernel
theorem dX7_init_75 : decode cX7_init 75 = .ok (.putfield 53, 3) := by decide +kernel
theorem dX7_init_78 : decode cX7_init 78 = .ok (.iconst 0, 1) := by decide +kernel
theorem dX7_init_79 : decode cX7_init 79 = .ok (.istore_n 1, 1) := by decide +kernel
theorem dX7_init_80 : decode cX7_init 80 = .ok (.iload_n 1, 1) := by decide +kernel
theorem dX7_init_81 : decode cX7_init 81 = .ok (.iconst 2, 1) := by decide +kernel
theorem dX7_init_82 : decode cX7_init 82 = .ok (.if_icmp .ge 22, 3) := by decide +kernel
theorem dX7_init_85 : decode cX7_init 85 = .ok (.aload_n 0, 1) := by decide +kernel
theorem dX7_init_86 : decode cX7_init 86 = .ok (.getfield 53, 3) := by decide +kernel
theorem dX7_init_89 : decode cX7_init 89 = .ok (.iload_n 1, 1) := by decide +kernel
theorem dX7_init_90 : decode cX7_init 90 = .ok (.new 51, 3) := by decide +kernel
theorem dX7_init_93 : decode cX7_init 93 = .ok (.dup, 1) := by decide +kernel
theorem dX7_init_94 : decode cX7_init 94 = .ok (.invokespecial 57, 3) := by decide +kernel
theorem dX7_init_97 : decode cX7_init 97 = .ok (.aastore, 1) := by decide +kernel
theorem dX7_init_98 : decode cX7_init 98 = .ok (.iinc 1 1, 3) := by decide +kernel
theorem dX7_init_101 : decode cX7_init 101 = .ok (.goto (-21), 3) := by decide +kernel
theorem dX7_init_104 : decode cX7_init 104 = .ok (.return_, 1) := by decide +kernel
theorem dX7_one_0 : decode cX7_one 0 = .ok (.iload_n 1, 1) := by decide +kernel
theorem dX7_one_1 : decode cX7_one 1 = .ok (.invokestatic 58, 3) := by decide +kernel
theorem dX7_one_4 : decode cX7_one 4 = .ok (.ifCond .ne 5, 3) := by decide +kernel
theorem dX7_one_7 : decode cX7_one 7 = .ok (.iconst (-1), 1) := by decide +kernel
theorem dX7_one_8 : decode cX7_one 8 = .ok (.ireturn, 1) := by decide +kernel
theorem dX7_one_9 : decode cX7_one 9 = .ok (.iload_n 2, 1) := by decide +kernel
theorem dX7_one_10 : decode cX7_one 10 = .ok (.iconst 0, 1) := by decide +kernel
theorem dX7_one_11 : decode cX7_one 11 = .ok (.sipush 9999, 3) := by decide +kernel
theorem dX7_one_14 : decode cX7_one 14 = .ok (.invokestatic 62, 3) := by decide +kernel
theorem dX7_one_17 : decode cX7_one 17 = .ok (.ifCond .eq 14, 3) := by decide +kernel
theorem dX7_one_20 : decode cX7_one 20 = .ok (.iload_n 3, 1) := by decide +kernel
theorem dX7_one_21 : decode cX7_one 21 = .ok (.iconst 0, 1) := by decide +kernel
theorem dX7_one_22 : decode cX7_one 22 = .ok (.sipush 9999, 3) := by decide +kernel
theorem dX7_one_25 : decode cX7_one 25 = .ok (.invokestatic 62, 3) := by decide +kernel
theorem dX7_one_28 : decode cX7_one 28 = .ok (.ifCond .ne 6, 3) := by decide +kernel
theorem dX7_one_31 : decode cX7_one 31 = .ok (.bipush (-2), 2) := by decide +kernel
theorem dX7_one_33 : decode cX7_one 33 = .ok (.ireturn, 1) := by decide +kernel
theorem dX7_one_34 : decode cX7_one 34 = .ok (.sipush 10000, 3) := by decide +kernel
theorem dX7_one_37 : decode cX7_one 37 = .ok (.aload_n 0, 1) := by decide +kernel
theorem dX7_one_38 : decode cX7_one 38 = .ok (.getfield 10, 3) := by decide +kernel
theorem dX7_one_41 : decode cX7_one 41 = .ok (.getfield 66, 3) := by decide +kernel
theorem dX7_one_44 : decode cX7_one 44 = .ok (.iload_n 1, 1) := by decide +kernel
theorem dX7_one_45 : decode cX7_one 45 = .ok (.iaload, 1) := by decide +kernel
theorem dX7_one_46 : decode cX7_one 46 = .ok (.imul, 1) := by decide +kernel
theorem dX7_one_47 : decode cX7_one 47 = .ok (.aload_n 0, 1) := by decide +kernel
theorem dX7_one_48 : decode cX7_one 48 = .ok (.getfield 10, 3) := by decide +kernel
theorem dX7_one_51 : decode cX7_one 51 = .ok (.getfield 70, 3) := by decide +kernel
theorem dX7_one_54 : decode cX7_one 54 = .ok (.iload_n 1, 1) := by decide +kernel
theorem dX7_one_55 : decode cX7_one 55 = .ok (.iaload, 1) := by decide +kernel
theorem dX7_one_56 : decode cX7_one 56 = .ok (.iadd, 1) := by decide +kernel
theorem dX7_one_57 : decode cX7_one 57 = .ok (.istore 4, 2) := by decide +kernel
theorem dX7_one_59 : decode cX7_one 59 = .ok (.aload_n 0, 1) := by decide +kernel
theorem dX7_one_60 : decode cX7_one 60 = .ok (.getfield 10, 3) := by decide +kernel
theorem dX7_one_63 : decode cX7_one 63 = .ok (.getfield 66, 3) := by decide +kernel
theorem dX7_one_66 : decode cX7_one 66 = .ok (.iload_n 1, 1) := by decide +kernel
theorem dX7_one_67 : decode cX7_one 67 = .ok (.iload_n 2, 1) := by decide +kernel
theorem dX7_one_68 : decode cX7_one 68 = .ok (.iastore, 1) := by decide +kernel
theorem dX7_one_69 : decode cX7_one 69 = .ok (.aload_n 0, 1) := by decide +kernel
theorem dX7_one_70 : decode cX7_one 70 = .ok (.getfield 10, 3) := by decide +kernel
theorem dX7_one_73 : decode cX7_one 73 = .ok (.getfield 70, 3) := by decide +kernel
theorem dX7_one_76 : decode cX7_one 76 = .ok (.iload_n 1, 1) := by decide +kernel
theorem dX7_one_77 : decode cX7_one 77 = .ok (.iload_n 3, 1) := by decide +kernel
theorem dX7_one_78 : decode cX7_one 78 = .ok (.iastore, 1) := by decide +kernel
theorem dX7_one_79 : decode cX7_one 79 = .ok (.iload 4, 2) := by decide +kernel
theorem dX7_one_81 : decode cX7_one 81 = .ok (.ireturn, 1) := by decide +kernel
theorem dX7_owe_0 : decode cX7_owe 0 = .ok (.iload_n 1, 1) := by decide +kernel
theorem dX7_owe_1 : decode cX7_owe 1 = .ok (.invokestatic 58, 3) := by decide +kernel
theorem dX7_owe_4 : decode cX7_owe 4 = .ok (.ifCond .eq 15, 3) := by decide +kernel
theorem dX7_owe_7 : decode cX7_owe 7 = .ok (.iload_n 2, 1) := by decide +kernel
theorem dX7_owe_8 : decode cX7_owe 8 = .ok (.invokestatic 58, 3) := by decide +kernel
theorem dX7_owe_11 : decode cX7_owe 11 = .ok (.ifCond .eq 8, 3) := by decide +kernel
theorem dX7_owe_14 : decode cX7_owe 14 = .ok (.iload_n 1, 1) := by decide +kernel
theorem dX7_owe_15 : decode cX7_owe 15 = .ok (.iload_n 2, 1) := by decide +kernel
theorem dX7_owe_16 : decode cX7_owe 16 = .ok (.if_icmp .ne 5, 3) := by decide +kernel
theorem dX7_owe_19 : decode cX7_owe 19 = .ok (.iconst (-1), 1) := by decide +kernel
theorem dX7_owe_20 : decode cX7_owe 20 = .ok (.ireturn, 1) := by decide +kernel
theorem dX7_owe_21 : decode cX7_owe 21 = .ok (.iload_n 3, 1) := by decide +kernel
theorem dX7_owe_22 : decode cX7_owe 22 = .ok (.iconst 0, 1) := by decide +kernel
theorem dX7_owe_23 : decode cX7_owe 23 = .ok (.sipush 999, 3) := by decide +kernel
theorem dX7_owe_26 : decode cX7_owe 26 = .ok (.invokestatic 62, 3) := by decide +kernel
theorem dX7_owe_29 : decode cX7_owe 29 = .ok (.ifCond .ne 6, 3) := by decide +kernel
theorem dX7_owe_32 : decode cX7_owe 32 = .ok (.bipush (-2), 2) := by decide +kernel
theorem dX7_owe_34 : decode cX7_owe 34 = .ok (.ireturn, 1) := by decide +kernel
theorem dX7_owe_35 : decode cX7_owe 35 = .ok (.aload_n 0, 1) := by decide +kernel
theorem dX7_owe_36 : decode cX7_owe 36 = .ok (.getfield 10, 3) := by decide +kernel
theorem dX7_owe_39 : decode cX7_owe 39 = .ok (.getfield 73, 3) := by decide +kernel
theorem dX7_owe_42 : decode cX7_owe 42 = .ok (.iload_n 1, 1) := by decide +kernel
theorem dX7_owe_43 : decode cX7_owe 43 = .ok (.aaload, 1) := by decide +kernel
theorem dX7_owe_44 : decode cX7_owe 44 = .ok (.iload_n 2, 1) := by decide +kernel
theorem dX7_owe_45 : decode cX7_owe 45 = .ok (.iaload, 1) := by decide +kernel
theorem dX7_owe_46 : decode cX7_owe 46 = .ok (.istore 4, 2) := by decide +kernel
theorem dX7_owe_48 : decode cX7_owe 48 = .ok (.aload_n 0, 1) := by decide +kernel
theorem dX7_owe_49 : decode cX7_owe 49 = .ok (.getfield 10, 3) := by decide +kernel
theorem dX7_owe_52 : decode cX7_owe 52 = .ok (.getfield 73, 3) := by decide +kernel
theorem dX7_owe_55 : decode cX7_owe 55 = .ok (.iload_n 1, 1) := by decide +kernel
theorem dX7_owe_56 : decode cX7_owe 56 = .ok (.aaload, 1) := by decide +kernel
theorem dX7_owe_57 : decode cX7_owe 57 = .ok (.iload_n 2, 1) := by decide +kernel
theorem dX7_owe_58 : decode cX7_owe 58 = .ok (.iload_n 3, 1) := by decide +kernel
theorem dX7_owe_59 : decode cX7_owe 59 = .ok (.iastore, 1) := by decide +kernel
theorem dX7_owe_60 : decode cX7_owe 60 = .ok (.iload 4, 2) := by decide +kernel
theorem dX7_owe_62 : decode cX7_owe 62 = .ok (.ireturn, 1) := by decide +kernel
theorem dX7_lot_0 : decode cX7_lot 0 = .ok (.iload_n 1, 1) := by decide +kernel
theorem dX7_lot_1 : decode cX7_lot 1 = .ok (.iconst 0, 1) := by decide +kernel
theorem dX7_lot_2 : decode cX7_lot 2 = .ok (.bipush 7, 2) := by decide +kernel
theorem dX7_lot_4 : decode cX7_lot 4 = .ok (.invokestatic 62, 3) := by decide +kernel
theorem dX7_lot_7 : decode cX7_lot 7 = .ok (.ifCond .eq 15, 3) := by decide +kernel
theorem dX7_lot_10 : decode cX7_lot 10 = .ok (.iload_n 3, 1) := by decide +kernel
theorem dX7_lot_11 : decode cX7_lot 11 = .ok (.iconst (-1), 1) := by decide +kernel
theorem dX7_lot_12 : decode cX7_lot 12 = .ok (.if_icmp .eq 12, 3) := by decide +kernel
theorem dX7_lot_15 : decode cX7_lot 15 = .ok (.iload_n 3, 1) := by decide +kernel
theorem dX7_lot_16 : decode cX7_lot 16 = .ok (.invokestatic 58, 3) := by decide +kernel
theorem dX7_lot_19 : decode cX7_lot 19 = .ok (.ifCond .ne 5, 3) := by decide +kernel
theorem dX7_lot_22 : decode cX7_lot 22 = .ok (.iconst (-1), 1) := by decide +kernel
theorem dX7_lot_23 : decode cX7_lot 23 = .ok (.ireturn, 1) := by decide +kernel
theorem dX7_lot_24 : decode cX7_lot 24 = .ok (.iload_n 2, 1) := by decide +kernel
theorem dX7_lot_25 : decode cX7_lot 25 = .ok (.iconst 1, 1) := by decide +kernel
theorem dX7_lot_26 : decode cX7_lot 26 = .ok (.sipush 999, 3) := by decide +kernel
theorem dX7_lot_29 : decode cX7_lot 29 = .ok (.invokestatic 62, 3) := by decide +kernel
theorem dX7_lot_32 : decode cX7_lot 32 = .ok (.ifCond .ne 6, 3) := by decide +kernel
theorem dX7_lot_35 : decode cX7_lot 35 = .ok (.bipush (-2), 2) := by decide +kernel
theorem dX7_lot_37 : decode cX7_lot 37 = .ok (.ireturn, 1) := by decide +kernel
theorem dX7_lot_38 : decode cX7_lot 38 = .ok (.aload_n 0, 1) := by decide +kernel
theorem dX7_lot_39 : decode cX7_lot 39 = .ok (.getfield 10, 3) := by decide +kernel
theorem dX7_lot_42 : decode cX7_lot 42 = .ok (.getfield 77, 3) := by decide +kernel
theorem dX7_lot_45 : decode cX7_lot 45 = .ok (.iload_n 1, 1) := by decide +kernel
theorem dX7_lot_46 : decode cX7_lot 46 = .ok (.iaload, 1) := by decide +kernel
theorem dX7_lot_47 : decode cX7_lot 47 = .ok (.istore 4, 2) := by decide +kernel
theorem dX7_lot_49 : decode cX7_lot 49 = .ok (.aload_n 0, 1) := by decide +kernel
theorem dX7_lot_50 : decode cX7_lot 50 = .ok (.getfield 10, 3) := by decide +kernel
theorem dX7_lot_53 : decode cX7_lot 53 = .ok (.getfield 77, 3) := by decide +kernel
theorem dX7_lot_56 : decode cX7_lot 56 = .ok (.iload_n 1, 1) := by decide +kernel
theorem dX7_lot_57 : decode cX7_lot 57 = .ok (.iload_n 2, 1) := by decide +kernel
theorem dX7_lot_58 : decode cX7_lot 58 = .ok (.iastore, 1) := by decide +kernel
theorem dX7_lot_59 : decode cX7_lot 59 = .ok (.aload_n 0, 1) := by decide +kernel
theorem dX7_lot_60 : decode cX7_lot 60 = .ok (.getfield 10, 3) := by decide +kernel
theorem dX7_lot_63 : decode cX7_lot 63 = .ok (.getfield 80, 3) := by decide +kernel
theorem dX7_lot_66 : decode cX7_lot 66 = .ok (.iload_n 1, 1) := by decide +kernel
theorem dX7_lot_67 : decode cX7_lot 67 = .ok (.iload_n 3, 1) := by decide +kernel
theorem dX7_lot_68 : decode cX7_lot 68 = .ok (.iastore, 1) := by decide +kernel
theorem dX7_lot_69 : decode cX7_lot 69 = .ok (.iload 4, 2) := by decide +kernel
theorem dX7_lot_71 : decode cX7_lot 71 = .ok (.ireturn, 1) := by decide +kernel
theorem dX7_set_0 : decode cX7_set 0 = .ok (.iload_n 1, 1) := by decide +kernel
theorem dX7_set_1 : decode cX7_set 1 = .ok (.iconst 0, 1) := by decide +kernel
theorem dX7_set_2 : decode cX7_set 2 = .ok (.iconst 1, 1) := by decide +kernel
theorem dX7_set_3 : decode cX7_set 3 = .ok (.invokestatic 62, 3) := by decide +kernel
theorem dX7_set_6 : decode cX7_set 6 = .ok (.ifCond .eq 13, 3) := by decide +kernel
theorem dX7_set_9 : decode cX7_set 9 = .ok (.iload_n 2, 1) := by decide +kernel
theorem dX7_set_10 : decode cX7_set 10 = .ok (.iconst 0, 1) := by decide +kernel
theorem dX7_set_11 : decode cX7_set 11 = .ok (.ldc 83, 2) := by decide +kernel
theorem dX7_set_13 : decode cX7_set 13 = .ok (.invokestatic 62, 3) := by decide +kernel
theorem dX7_set_16 : decode cX7_set 16 = .ok (.ifCond .ne 6, 3) := by decide +kernel
theorem dX7_set_19 : decode cX7_set 19 = .ok (.bipush (-2), 2) := by decide +kernel
theorem dX7_set_21 : decode cX7_set 21 = .ok (.ireturn, 1) := by decide +kernel
theorem dX7_set_22 : decode cX7_set 22 = .ok (.iload_n 1, 1) := by decide +kernel
theorem dX7_set_23 : decode cX7_set 23 = .ok (.ifCond .ne 22, 3) := by decide +kernel
theorem dX7_set_26 : decode cX7_set 26 = .ok (.aload_n 0, 1) := by decide +kernel
theorem dX7_set_27 : decode cX7_set 27 = .ok (.getfield 10, 3) := by decide +kernel
theorem dX7_set_30 : decode cX7_set 30 = .ok (.getfield 84, 3) := by decide +kernel
theorem dX7_set_33 : decode cX7_set 33 = .ok (.istore_n 3, 1) := by decide +kernel
theorem dX7_set_34 : decode cX7_set 34 = .ok (.aload_n 0, 1) := by decide +kernel
theorem dX7_set_35 : decode cX7_set 35 = .ok (.getfield 10, 3) := by decide +kernel
theorem dX7_set_38 : decode cX7_set 38 = .ok (.iload_n 2, 1) := by decide +kernel
theorem dX7_set_39 : decode cX7_set 39 = .ok (.putfield 84, 3) := by decide +kernel
theorem dX7_set_42 : decode cX7_set 42 = .ok (.goto 19, 3) := by decide +kernel
theorem dX7_set_45 : decode cX7_set 45 = .ok (.aload_n 0, 1) := by decide +kernel
theorem dX7_set_46 : decode cX7_set 46 = .ok (.getfield 10, 3) := by decide +kernel
theorem dX7_set_49 : decode cX7_set 49 = .ok (.getfield 88, 3) := by decide +kernel
theorem dX7_set_52 : decode cX7_set 52 = .ok (.istore_n 3, 1) := by decide +kernel
theorem dX7_set_53 : decode cX7_set 53 = .ok (.aload_n 0, 1) := by decide +kernel
theorem dX7_set_54 : decode cX7_set 54 = .ok (.getfield 10, 3) := by decide +kernel
theorem dX7_set_57 : decode cX7_set 57 = .ok (.iload_n 2, 1) := by decide +kernel
theorem dX7_set_58 : decode cX7_set 58 = .ok (.putfield 88, 3) := by decide +kernel
theorem dX7_set_61 : decode cX7_set 61 = .ok (.iload_n 3, 1) := by decide +kernel
theorem dX7_set_62 : decode cX7_set 62 = .ok (.ireturn, 1) := by decide +kernel
theorem dX7_say_0 : decode cX7_say 0 = .ok (.iload_n 1, 1) := by decide +kernel
theorem dX7_say_1 : decode cX7_say 1 = .ok (.bipush 33, 2) := by decide +kernel
theorem dX7_say_3 : decode cX7_say 3 = .ok (.bipush 126, 2) := by decide +kernel
theorem dX7_say_5 : decode cX7_say 5 = .ok (.invokestatic 62, 3) := by decide +kernel
theorem dX7_say_8 : decode cX7_say 8 = .ok (.ifCond .ne 6, 3) := by decide +kernel
theorem dX7_say_11 : decode cX7_say 11 = .ok (.bipush (-2), 2) := by decide +kernel
theorem dX7_say_13 : decode cX7_say 13 = .ok (.ireturn, 1) := by decide +kernel
theorem dX7_say_14 : decode cX7_say 14 = .ok (.aload_n 0, 1) := by decide +kernel
theorem dX7_say_15 : decode cX7_say 15 = .ok (.getfield 26, 3) := by decide +kernel
theorem dX7_say_18 : decode cX7_say 18 = .ok (.getfield 91, 3) := by decide +kernel
theorem dX7_say_21 : decode cX7_say 21 = .ok (.bipush 60, 2) := by decide +kernel
theorem dX7_say_23 : decode cX7_say 23 = .ok (.if_icmp .ne 6, 3) := by decide +kernel
theorem dX7_say_26 : decode cX7_say 26 = .ok (.bipush (-4), 2) := by decide +kernel
theorem dX7_say_28 : decode cX7_say 28 = .ok (.ireturn, 1) := by decide +kernel
theorem dX7_say_29 : decode cX7_say 29 = .ok (.aload_n 0, 1) := by decide +kernel
theorem dX7_say_30 : decode cX7_say 30 = .ok (.getfield 26, 3) := by decide +kernel
theorem dX7_say_33 : decode cX7_say 33 = .ok (.iload_n 1, 1) := by decide +kernel
theorem dX7_say_34 : decode cX7_say 34 = .ok (.invokevirtual 94, 3) := by decide +kernel
theorem dX7_say_37 : decode cX7_say 37 = .ok (.aload_n 0, 1) := by decide +kernel
theorem dX7_say_38 : decode cX7_say 38 = .ok (.getfield 26, 3) := by decide +kernel
theorem dX7_say_41 : decode cX7_say 41 = .ok (.getfield 91, 3) := by decide +kernel
theorem dX7_say_44 : decode cX7_say 44 = .ok (.ireturn, 1) := by decide +kernel
theorem dX7_wipe_0 : decode cX7_wipe 0 = .ok (.aload_n 0, 1) := by decide +kernel
theorem dX7_wipe_1 : decode cX7_wipe 1 = .ok (.getfield 26, 3) := by decide +kernel
theorem dX7_wipe_4 : decode cX7_wipe 4 = .ok (.getfield 91, 3) := by decide +kernel
theorem dX7_wipe_7 : decode cX7_wipe 7 = .ok (.istore_n 1, 1) := by decide +kernel
theorem dX7_wipe_8 : decode cX7_wipe 8 = .ok (.aload_n 0, 1) := by decide +kernel
theorem dX7_wipe_9 : decode cX7_wipe 9 = .ok (.getfield 26, 3) := by decide +kernel
theorem dX7_wipe_12 : decode cX7_wipe 12 = .ok (.iconst 0, 1) := by decide +kernel
theorem dX7_wipe_13 : decode cX7_wipe 13 = .ok (.putfield 91, 3) := by decide +kernel
theorem dX7_wipe_16 : decode cX7_wipe 16 = .ok (.iload_n 1, 1) := by decide +kernel
theorem dX7_wipe_17 : decode cX7_wipe 17 = .ok (.ireturn, 1) := by decide +kernel
theorem dX7_fault_0 : decode cX7_fault 0 = .ok (.aload_n 0, 1) := by decide +kernel
theorem dX7_fault_1 : decode cX7_fault 1 = .ok (.getfield 26, 3) := by decide +kernel
theorem dX7_fault_4 : decode cX7_fault 4 = .ok (.invokevirtual 98, 3) := by decide +kernel
theorem dX7_fault_7 : decode cX7_fault 7 = .ok (.ireturn, 1) := by decide +kernel
theorem dX7_judge_0 : decode cX7_judge 0 = .ok (.iload_n 1, 1) := by decide +kernel
theorem dX7_judge_1 : decode cX7_judge 1 = .ok (.iconst 0, 1) := by decide +kernel
theorem dX7_judge_2 : decode cX7_judge 2 = .ok (.iconst 2, 1) := by decide +kernel
theorem dX7_judge_3 : decode cX7_judge 3 = .ok (.invokestatic 62, 3) := by decide +kernel
theorem dX7_judge_6 : decode cX7_judge 6 = .ok (.ifCond .ne 6, 3) := by decide +kernel
theorem dX7_judge_9 : decode cX7_judge 9 = .ok (.bipush (-2), 2) := by decide +kernel
theorem dX7_judge_11 : decode cX7_judge 11 = .ok (.ireturn, 1) := by decide +kernel
theorem dX7_judge_12 : decode cX7_judge 12 = .ok (.aload_n 0, 1) := by decide +kernel
theorem dX7_judge_13 : decode cX7_judge 13 = .ok (.iconst 0, 1) := by decide +kernel
theorem dX7_judge_14 : decode cX7_judge 14 = .ok (.invokevirtual 102, 3) := by decide +kernel
theorem dX7_judge_17 : decode cX7_judge 17 = .ok (.istore_n 2, 1) := by decide +kernel
theorem dX7_judge_18 : decode cX7_judge 18 = .ok (.iload_n 2, 1) := by decide +kernel
theorem dX7_judge_19 : decode cX7_judge 19 = .ok (.bipush (-5), 2) := by decide +kernel
theorem dX7_judge_21 : decode cX7_judge 21 = .ok (.if_icmp .eq 14, 3) := by decide +kernel
theorem dX7_judge_24 : decode cX7_judge 24 = .ok (.iload_n 1, 1) := by decide +kernel
theorem dX7_judge_25 : decode cX7_judge 25 = .ok (.iconst 2, 1) := by decide +kernel
theorem dX7_judge_26 : decode cX7_judge 26 = .ok (.if_icmp .ne 11, 3) := by decide +kernel
theorem dX7_judge_29 : decode cX7_judge 29 = .ok (.iload_n 2, 1) := by decide +kernel
theorem dX7_judge_30 : decode cX7_judge 30 = .ok (.bipush (-3), 2) := by decide +kernel
theorem dX7_judge_32 : decode cX7_judge 32 = .ok (.if_icmp .ne 5, 3) := by decide +kernel
theorem dX7_judge_35 : decode cX7_judge 35 = .ok (.iload_n 2, 1) := by decide +kernel
theorem dX7_judge_36 : decode cX7_judge 36 = .ok (.ireturn, 1) := by decide +kernel
theorem dX7_judge_37 : decode cX7_judge 37 = .ok (.iload_n 1, 1) := by decide +kernel
theorem dX7_judge_38 : decode cX7_judge 38 = .ok (.iconst 2, 1) := by decide +kernel
theorem dX7_judge_39 : decode cX7_judge 39 = .ok (.if_icmp .ne 11, 3) := by decide +kernel
theorem dX7_judge_42 : decode cX7_judge 42 = .ok (.aload_n 0, 1) := by decide +kernel
theorem dX7_judge_43 : decode cX7_judge 43 = .ok (.getfield 33, 3) := by decide +kernel
theorem dX7_judge_46 : decode cX7_judge 46 = .ok (.getfield 106, 3) := by decide +kernel
theorem dX7_judge_49 : decode cX7_judge 49 = .ok (.ireturn, 1) := by decide +kernel
theorem dX7_judge_50 : decode cX7_judge 50 = .ok (.aload_n 0, 1) := by decide +kernel
theorem dX7_judge_51 : decode cX7_judge 51 = .ok (.getfield 33, 3) := by decide +kernel
theorem dX7_judge_54 : decode cX7_judge 54 = .ok (.getfield 109, 3) := by decide +kernel
theorem dX7_judge_57 : decode cX7_judge 57 = .ok (.ifCond .ne 6, 3) := by decide +kernel
theorem dX7_judge_60 : decode cX7_judge 60 = .ok (.bipush (-6), 2) := by decide +kernel
theorem dX7_judge_62 : decode cX7_judge 62 = .ok (.ireturn, 1) := by decide +kernel
theorem dX7_judge_63 : decode cX7_judge 63 = .ok (.iload_n 1, 1) := by decide +kernel
theorem dX7_judge_64 : decode cX7_judge 64 = .ok (.ifCond .ne 13, 3) := by decide +kernel
theorem dX7_judge_67 : decode cX7_judge 67 = .ok (.aload_n 0, 1) := by decide +kernel
theorem dX7_judge_68 : decode cX7_judge 68 = .ok (.getfield 33, 3) := by decide +kernel
theorem dX7_judge_71 : decode cX7_judge 71 = .ok (.getfield 112, 3) := by decide +kernel
theorem dX7_judge_74 : decode cX7_judge 74 = .ok (.goto 10, 3) := by decide +kernel
theorem dX7_judge_77 : decode cX7_judge 77 = .ok (.aload_n 0, 1) := by decide +kernel
theorem dX7_judge_78 : decode cX7_judge 78 = .ok (.getfield 33, 3) := by decide +kernel
theorem dX7_judge_81 : decode cX7_judge 81 = .ok (.getfield 109, 3) := by decide +kernel
theorem dX7_judge_84 : decode cX7_judge 84 = .ok (.ireturn, 1) := by decide +kernel
theorem dX7_behind_0 : decode cX7_behind 0 = .ok (.iload_n 1, 1) := by decide +kernel
theorem dX7_behind_1 : decode cX7_behind 1 = .ok (.invokestatic 58, 3) := by decide +kernel
theorem dX7_behind_4 : decode cX7_behind 4 = .ok (.ifCond .ne 5, 3) := by decide +kernel
theorem dX7_behind_7 : decode cX7_behind 7 = .ok (.iconst (-1), 1) := by decide +kernel
theorem dX7_behind_8 : decode cX7_behind 8 = .ok (.ireturn, 1) := by decide +kernel
theorem dX7_behind_9 : decode cX7_behind 9 = .ok (.iload_n 2, 1) := by decide +kernel
theorem dX7_behind_10 : decode cX7_behind 10 = .ok (.iconst 0, 1) := by decide +kernel
theorem dX7_behind_11 : decode cX7_behind 11 = .ok (.iconst 3, 1) := by decide +kernel
theorem dX7_behind_12 : decode cX7_behind 12 = .ok (.invokestatic 62, 3) := by decide +kernel
theorem dX7_behind_15 : decode cX7_behind 15 = .ok (.ifCond .ne 6, 3) := by decide +kernel
theorem dX7_behind_18 : decode cX7_behind 18 = .ok (.bipush (-2), 2) := by decide +kernel
theorem dX7_behind_20 : decode cX7_behind 20 = .ok (.ireturn, 1) := by decide +kernel
theorem dX7_behind_21 : decode cX7_behind 21 = .ok (.aload_n 0, 1) := by decide +kernel
theorem dX7_behind_22 : decode cX7_behind 22 = .ok (.iconst 0, 1) := by decide +kernel
theorem dX7_behind_23 : decode cX7_behind 23 = .ok (.invokevirtual 102, 3) := by decide +kernel
theorem dX7_behind_26 : decode cX7_behind 26 = .ok (.istore_n 3, 1) := by decide +kernel
theorem dX7_behind_27 : decode cX7_behind 27 = .ok (.iload_n 3, 1) := by decide +kernel
theorem dX7_behind_28 : decode cX7_behind 28 = .ok (.ifCond .eq 7, 3) := by decide +kernel
theorem dX7_behind_31 : decode cX7_behind 31 = .ok (.iload_n 3, 1) := by decide +kernel
theorem dX7_behind_32 : decode cX7_behind 32 = .ok (.goto 15, 3) := by decide +kernel
theorem dX7_behind_35 : decode cX7_behind 35 = .ok (.aload_n 0, 1) := by decide +kernel
theorem dX7_behind_36 : decode cX7_behind 36 = .ok (.getfield 33, 3) := by decide +kernel
theorem dX7_behind_39 : decode cX7_behind 39 = .ok (.getfield 115, 3) := by decide +kernel
theorem dX7_behind_42 : decode cX7_behind 42 = .ok (.iload_n 1, 1) := by decide +kernel
theorem dX7_behind_43 : decode cX7_behind 43 = .ok (.iload_n 2, 1) := by decide +kernel
theorem dX7_behind_44 : decode cX7_behind 44 = .ok (.invokevirtual 118, 3) := by decide +kernel
theorem dX7_behind_47 : decode cX7_behind 47 = .ok (.ireturn, 1) := by decide +kernel
theorem dX7_total_0 : decode cX7_total 0 = .ok (.iload_n 1, 1) := by decide +kernel
theorem dX7_total_1 : decode cX7_total 1 = .ok (.iconst 0, 1) := by decide +kernel
theorem dX7_total_2 : decode cX7_total 2 = .ok (.iconst 5, 1) := by decide +kernel
theorem dX7_total_3 : decode cX7_total 3 = .ok (.invokestatic 62, 3) := by decide +kernel
theorem dX7_total_6 : decode cX7_total 6 = .ok (.ifCond .ne 6, 3) := by decide +kernel
theorem dX7_total_9 : decode cX7_total 9 = .ok (.bipush (-2), 2) := by decide +kernel
theorem dX7_total_11 : decode cX7_total 11 = .ok (.ireturn, 1) := by decide +kernel
theorem dX7_total_12 : decode cX7_total 12 = .ok (.aload_n 0, 1) := by decide +kernel
theorem dX7_total_13 : decode cX7_total 13 = .ok (.iconst 0, 1) := by decide +kernel
theorem dX7_total_14 : decode cX7_total 14 = .ok (.invokevirtual 102, 3) := by decide +kernel
theorem dX7_total_17 : decode cX7_total 17 = .ok (.istore_n 2, 1) := by decide +kernel
theorem dX7_total_18 : decode cX7_total 18 = .ok (.iload_n 2, 1) := by decide +kernel
theorem dX7_total_19 : decode cX7_total 19 = .ok (.ifCond .eq 5, 3) := by decide +kernel
theorem dX7_total_22 : decode cX7_total 22 = .ok (.iload_n 2, 1) := by decide +kernel
theorem dX7_total_23 : decode cX7_total 23 = .ok (.ireturn, 1) := by decide +kernel
theorem dX7_total_24 : decode cX7_total 24 = .ok (.iload_n 1, 1) := by decide +kernel
theorem dX7_total_25 : decode cX7_total 25 = .ok (.tableswitch 90 0 4 #[35, 46, 57, 68, 79], 35) := by decide +kernel
theorem dX7_total_60 : decode cX7_total 60 = .ok (.aload_n 0, 1) := by decide +kernel
theorem dX7_total_61 : decode cX7_total 61 = .ok (.getfield 33, 3) := by decide +kernel
theorem dX7_total_64 : decode cX7_total 64 = .ok (.getfield 115, 3) := by decide +kernel
theorem dX7_total_67 : decode cX7_total 67 = .ok (.invokevirtual 122, 3) := by decide +kernel
theorem dX7_total_70 : decode cX7_total 70 = .ok (.ireturn, 1) := by decide +kernel
theorem dX7_total_71 : decode cX7_total 71 = .ok (.aload_n 0, 1) := by decide +kernel
theorem dX7_total_72 : decode cX7_total 72 = .ok (.getfield 33, 3) := by decide +kernel
theorem dX7_total_75 : decode cX7_total 75 = .ok (.getfield 115, 3) := by decide +kernel
theorem dX7_total_78 : decode cX7_total 78 = .ok (.invokevirtual 125, 3) := by decide +kernel
theorem dX7_total_81 : decode cX7_total 81 = .ok (.ireturn, 1) := by decide +kernel
theorem dX7_total_82 : decode cX7_total 82 = .ok (.aload_n 0, 1) := by decide +kernel
theorem dX7_total_83 : decode cX7_total 83 = .ok (.getfield 33, 3) := by decide +kernel
theorem dX7_total_86 : decode cX7_total 86 = .ok (.getfield 115, 3) := by decide +kernel
theorem dX7_total_89 : decode cX7_total 89 = .ok (.invokevirtual 128, 3) := by decide +kernel
theorem dX7_total_92 : decode cX7_total 92 = .ok (.ireturn, 1) := by decide +kernel
theorem dX7_total_93 : decode cX7_total 93 = .ok (.aload_n 0, 1) := by decide +kernel
theorem dX7_total_94 : decode cX7_total 94 = .ok (.getfield 33, 3) := by decide +kernel
theorem dX7_total_97 : decode cX7_total 97 = .ok (.getfield 115, 3) := by decide +kernel
theorem dX7_total_100 : decode cX7_total 100 = .ok (.getfield 131, 3) := by decide +kernel
theorem dX7_total_103 : decode cX7_total 103 = .ok (.ireturn, 1) := by decide +kernel
theorem dX7_total_104 : decode cX7_total 104 = .ok (.aload_n 0, 1) := by decide +kernel
theorem dX7_total_105 : decode cX7_total 105 = .ok (.getfield 33, 3) := by decide +kernel
theorem dX7_total_108 : decode cX7_total 108 = .ok (.getfield 115, 3) := by decide +kernel
theorem dX7_total_111 : decode cX7_total 111 = .ok (.getfield 88, 3) := by decide +kernel
theorem dX7_total_114 : decode cX7_total 114 = .ok (.ireturn, 1) := by decide +kernel
theorem dX7_total_115 : decode cX7_total 115 = .ok (.aload_n 0, 1) := by decide +kernel
theorem dX7_total_116 : decode cX7_total 116 = .ok (.getfield 33, 3) := by decide +kernel
theorem dX7_total_119 : decode cX7_total 119 = .ok (.getfield 115, 3) := by decide +kernel
theorem dX7_total_122 : decode cX7_total 122 = .ok (.getfield 134, 3) := by decide +kernel
theorem dX7_total_125 : decode cX7_total 125 = .ok (.ireturn, 1) := by decide +kernel
theorem dX7_fell_0 : decode cX7_fell 0 = .ok (.iload_n 1, 1) := by decide +kernel
theorem dX7_fell_1 : decode cX7_fell 1 = .ok (.iconst 0, 1) := by decide +kernel
theorem dX7_fell_2 : decode cX7_fell 2 = .ok (.bipush 100, 2) := by decide +kernel
theorem dX7_fell_4 : decode cX7_fell 4 = .ok (.invokestatic 62, 3) := by decide +kernel
theorem dX7_fell_7 : decode cX7_fell 7 = .ok (.ifCond .ne 6, 3) := by decide +kernel
theorem dX7_fell_10 : decode cX7_fell 10 = .ok (.bipush (-2), 2) := by decide +kernel
theorem dX7_fell_12 : decode cX7_fell 12 = .ok (.ireturn, 1) := by decide +kernel
theorem dX7_fell_13 : decode cX7_fell 13 = .ok (.aload_n 0, 1) := by decide +kernel
theorem dX7_fell_14 : decode cX7_fell 14 = .ok (.iload_n 1, 1) := by decide +kernel
theorem dX7_fell_15 : decode cX7_fell 15 = .ok (.invokevirtual 102, 3) := by decide +kernel
theorem dX7_fell_18 : decode cX7_fell 18 = .ok (.istore_n 2, 1) := by decide +kernel
theorem dX7_fell_19 : decode cX7_fell 19 = .ok (.iload_n 2, 1) := by decide +kernel
theorem dX7_fell_20 : decode cX7_fell 20 = .ok (.ifCond .eq 7, 3) := by decide +kernel
theorem dX7_fell_23 : decode cX7_fell 23 = .ok (.iload_n 2, 1) := by decide +kernel
theorem dX7_fell_24 : decode cX7_fell 24 = .ok (.goto 10, 3) := by decide +kernel
theorem dX7_fell_27 : decode cX7_fell 27 = .ok (.aload_n 0, 1) := by decide +kernel
theorem dX7_fell_28 : decode cX7_fell 28 = .ok (.getfield 33, 3) := by decide +kernel
theorem dX7_fell_31 : decode cX7_fell 31 = .ok (.getfield 137, 3) := by decide +kernel
theorem dX7_fell_34 : decode cX7_fell 34 = .ok (.ireturn, 1) := by decide +kernel
theorem dX7_done_0 : decode cX7_done 0 = .ok (.aload_n 0, 1) := by decide +kernel
theorem dX7_done_1 : decode cX7_done 1 = .ok (.iconst 0, 1) := by decide +kernel
theorem dX7_done_2 : decode cX7_done 2 = .ok (.invokevirtual 102, 3) := by decide +kernel
theorem dX7_done_5 : decode cX7_done 5 = .ok (.istore_n 1, 1) := by decide +kernel
theorem dX7_done_6 : decode cX7_done 6 = .ok (.iload_n 1, 1) := by decide +kernel
theorem dX7_done_7 : decode cX7_done 7 = .ok (.ifCond .eq 5, 3) := by decide +kernel
theorem dX7_done_10 : decode cX7_done 10 = .ok (.iload_n 1, 1) := by decide +kernel
theorem dX7_done_11 : decode cX7_done 11 = .ok (.ireturn, 1) := by decide +kernel
theorem dX7_done_12 : decode cX7_done 12 = .ok (.aload_n 0, 1) := by decide +kernel
theorem dX7_done_13 : decode cX7_done 13 = .ok (.getfield 10, 3) := by decide +kernel
theorem dX7_done_16 : decode cX7_done 16 = .ok (.aload_n 0, 1) := by decide +kernel
theorem dX7_done_17 : decode cX7_done 17 = .ok (.getfield 33, 3) := by decide +kernel
theorem dX7_done_20 : decode cX7_done 20 = .ok (.getfield 115, 3) := by decide +kernel
theorem dX7_done_23 : decode cX7_done 23 = .ok (.invokevirtual 140, 3) := by decide +kernel
theorem dX7_done_26 : decode cX7_done 26 = .ok (.aload_n 0, 1) := by decide +kernel
theorem dX7_done_27 : decode cX7_done 27 = .ok (.getfield 26, 3) := by decide +kernel
theorem dX7_done_30 : decode cX7_done 30 = .ok (.iconst 0, 1) := by decide +kernel
theorem dX7_done_31 : decode cX7_done 31 = .ok (.putfield 91, 3) := by decide +kernel
theorem dX7_done_34 : decode cX7_done 34 = .ok (.aload_n 0, 1) := by decide +kernel
theorem dX7_done_35 : decode cX7_done 35 = .ok (.getfield 33, 3) := by decide +kernel
theorem dX7_done_38 : decode cX7_done 38 = .ok (.getfield 112, 3) := by decide +kernel
theorem dX7_done_41 : decode cX7_done 41 = .ok (.ireturn, 1) := by decide +kernel
theorem dX7_struck_0 : decode cX7_struck 0 = .ok (.iload_n 1, 1) := by decide +kernel
theorem dX7_struck_1 : decode cX7_struck 1 = .ok (.iconst 0, 1) := by decide +kernel
theorem dX7_struck_2 : decode cX7_struck 2 = .ok (.iconst 1, 1) := by decide +kernel
theorem dX7_struck_3 : decode cX7_struck 3 = .ok (.invokestatic 62, 3) := by decide +kernel
theorem dX7_struck_6 : decode cX7_struck 6 = .ok (.ifCond .ne 6, 3) := by decide +kernel
theorem dX7_struck_9 : decode cX7_struck 9 = .ok (.bipush (-2), 2) := by decide +kernel
theorem dX7_struck_11 : decode cX7_struck 11 = .ok (.ireturn, 1) := by decide +kernel
theorem dX7_struck_12 : decode cX7_struck 12 = .ok (.aload_n 0, 1) := by decide +kernel
theorem dX7_struck_13 : decode cX7_struck 13 = .ok (.getfield 40, 3) := by decide +kernel
theorem dX7_struck_16 : decode cX7_struck 16 = .ok (.aload_n 0, 1) := by decide +kernel
theorem dX7_struck_17 : decode cX7_struck 17 = .ok (.getfield 10, 3) := by decide +kernel
theorem dX7_struck_20 : decode cX7_struck 20 = .ok (.invokevirtual 144, 3) := by decide +kernel
theorem dX7_struck_23 : decode cX7_struck 23 = .ok (.iload_n 1, 1) := by decide +kernel
theorem dX7_struck_24 : decode cX7_struck 24 = .ok (.ifCond .ne 13, 3) := by decide +kernel
theorem dX7_struck_27 : decode cX7_struck 27 = .ok (.aload_n 0, 1) := by decide +kernel
theorem dX7_struck_28 : decode cX7_struck 28 = .ok (.getfield 40, 3) := by decide +kernel
theorem dX7_struck_31 : decode cX7_struck 31 = .ok (.invokevirtual 147, 3) := by decide +kernel
theorem dX7_struck_34 : decode cX7_struck 34 = .ok (.goto 10, 3) := by decide +kernel
theorem dX7_struck_37 : decode cX7_struck 37 = .ok (.aload_n 0, 1) := by decide +kernel
theorem dX7_struck_38 : decode cX7_struck 38 = .ok (.getfield 40, 3) := by decide +kernel
theorem dX7_struck_41 : decode cX7_struck 41 = .ok (.invokevirtual 150, 3) := by decide +kernel
theorem dX7_struck_44 : decode cX7_struck 44 = .ok (.ireturn, 1) := by decide +kernel
theorem dX7_tryMonths_0 : decode cX7_tryMonths 0 = .ok (.aload_n 0, 1) := by decide +kernel
theorem dX7_tryMonths_1 : decode cX7_tryMonths 1 = .ok (.getfield 26, 3) := by decide +kernel
theorem dX7_tryMonths_4 : decode cX7_tryMonths 4 = .ok (.invokevirtual 98, 3) := by decide +kernel
theorem dX7_tryMonths_7 : decode cX7_tryMonths 7 = .ok (.bipush (-6), 2) := by decide +kernel
theorem dX7_tryMonths_9 : decode cX7_tryMonths 9 = .ok (.if_icmp .eq 6, 3) := by decide +kernel
theorem dX7_tryMonths_12 : decode cX7_tryMonths 12 = .ok (.bipush (-5), 2) := by decide +kernel
theorem dX7_tryMonths_14 : decode cX7_tryMonths 14 = .ok (.ireturn, 1) := by decide +kernel
theorem dX7_tryMonths_15 : decode cX7_tryMonths 15 = .ok (.aload_n 0, 1) := by decide +kernel
theorem dX7_tryMonths_16 : decode cX7_tryMonths 16 = .ok (.getfield 33, 3) := by decide +kernel
theorem dX7_tryMonths_19 : decode cX7_tryMonths 19 = .ok (.aload_n 0, 1) := by decide +kernel
theorem dX7_tryMonths_20 : decode cX7_tryMonths 20 = .ok (.getfield 26, 3) := by decide +kernel
theorem dX7_tryMonths_23 : decode cX7_tryMonths 23 = .ok (.aload_n 0, 1) := by decide +kernel
theorem dX7_tryMonths_24 : decode cX7_tryMonths 24 = .ok (.getfield 10, 3) := by decide +kernel
theorem dX7_tryMonths_27 : decode cX7_tryMonths 27 = .ok (.iload_n 1, 1) := by decide +kernel
theorem dX7_tryMonths_28 : decode cX7_tryMonths 28 = .ok (.invokevirtual 153, 3) := by decide +kernel
theorem dX7_tryMonths_31 : decode cX7_tryMonths 31 = .ok (.aload_n 0, 1) := by decide +kernel
theorem dX7_tryMonths_32 : decode cX7_tryMonths 32 = .ok (.getfield 33, 3) := by decide +kernel
theorem dX7_tryMonths_35 : decode cX7_tryMonths 35 = .ok (.getfield 109, 3) := by decide +kernel
theorem dX7_tryMonths_38 : decode cX7_tryMonths 38 = .ok (.ifCond .ne 7, 3) := by decide +kernel
theorem dX7_tryMonths_41 : decode cX7_tryMonths 41 = .ok (.iconst 0, 1) := by decide +kernel
theorem dX7_tryMonths_42 : decode cX7_tryMonths 42 = .ok (.goto 5, 3) := by decide +kernel
theorem dX7_tryMonths_45 : decode cX7_tryMonths 45 = .ok (.bipush (-3), 2) := by decide +kernel
theorem dX7_tryMonths_47 : decode cX7_tryMonths 47 = .ok (.ireturn, 1) := by decide +kernel
theorem dX7_prints_0 : decode cX7_prints 0 = .ok (.iload_n 1, 1) := by decide +kernel
theorem dX7_prints_1 : decode cX7_prints 1 = .ok (.iconst 1, 1) := by decide +kernel
theorem dX7_prints_2 : decode cX7_prints 2 = .ok (.bipush 100, 2) := by decide +kernel
theorem dX7_prints_4 : decode cX7_prints 4 = .ok (.invokestatic 62, 3) := by decide +kernel
theorem dX7_prints_7 : decode cX7_prints 7 = .ok (.ifCond .ne 6, 3) := by decide +kernel
theorem dX7_prints_10 : decode cX7_prints 10 = .ok (.bipush (-2), 2) := by decide +kernel
theorem dX7_prints_12 : decode cX7_prints 12 = .ok (.ireturn, 1) := by decide +kernel
theorem dX7_prints_13 : decode cX7_prints 13 = .ok (.bipush 100, 2) := by decide +kernel
theorem dX7_prints_15 : decode cX7_prints 15 = .ok (.aload_n 0, 1) := by decide +kernel
theorem dX7_prints_16 : decode cX7_prints 16 = .ok (.getfield 10, 3) := by decide +kernel
theorem dX7_prints_19 : decode cX7_prints 19 = .ok (.invokevirtual 125, 3) := by decide +kernel
theorem dX7_prints_22 : decode cX7_prints 22 = .ok (.imul, 1) := by decide +kernel
theorem dX7_prints_23 : decode cX7_prints 23 = .ok (.iload_n 1, 1) := by decide +kernel
theorem dX7_prints_24 : decode cX7_prints 24 = .ok (.idiv, 1) := by decide +kernel
theorem dX7_prints_25 : decode cX7_prints 25 = .ok (.istore_n 2, 1) := by decide +kernel
theorem dX7_prints_26 : decode cX7_prints 26 = .ok (.aload_n 0, 1) := by decide +kernel
theorem dX7_prints_27 : decode cX7_prints 27 = .ok (.getfield 10, 3) := by decide +kernel
theorem dX7_prints_30 : decode cX7_prints 30 = .ok (.invokevirtual 122, 3) := by decide +kernel
theorem dX7_prints_33 : decode cX7_prints 33 = .ok (.istore_n 3, 1) := by decide +kernel
theorem dX7_prints_34 : decode cX7_prints 34 = .ok (.iload_n 3, 1) := by decide +kernel
theorem dX7_prints_35 : decode cX7_prints 35 = .ok (.iload_n 2, 1) := by decide +kernel
theorem dX7_prints_36 : decode cX7_prints 36 = .ok (.if_icmp .le 8, 3) := by decide +kernel
theorem dX7_prints_39 : decode cX7_prints 39 = .ok (.bipush (-6), 2) := by decide +kernel
theorem dX7_prints_41 : decode cX7_prints 41 = .ok (.goto 15, 3) := by decide +kernel
theorem dX7_prints_44 : decode cX7_prints 44 = .ok (.sipush 999, 3) := by decide +kernel
theorem dX7_prints_47 : decode cX7_prints 47 = .ok (.iload_n 2, 1) := by decide +kernel
theorem dX7_prints_48 : decode cX7_prints 48 = .ok (.iload_n 3, 1) := by decide +kernel
theorem dX7_prints_49 : decode cX7_prints 49 = .ok (.isub, 1) := by decide +kernel
theorem dX7_prints_50 : decode cX7_prints 50 = .ok (.bipush 100, 2) := by decide +kernel
theorem dX7_prints_52 : decode cX7_prints 52 = .ok (.idiv, 1) := by decide +kernel
theorem dX7_prints_53 : decode cX7_prints 53 = .ok (.invokestatic 157, 3) := by decide +kernel
theorem dX7_prints_56 : decode cX7_prints 56 = .ok (.ireturn, 1) := by decide +kernel
theorem dX7_buys_0 : decode cX7_buys 0 = .ok (.iload_n 1, 1) := by decide +kernel
theorem dX7_buys_1 : decode cX7_buys 1 = .ok (.iconst 0, 1) := by decide +kernel
theorem dX7_buys_2 : decode cX7_buys 2 = .ok (.sipush 9999, 3) := by decide +kernel
theorem dX7_buys_5 : decode cX7_buys 5 = .ok (.invokestatic 62, 3) := by decide +kernel
theorem dX7_buys_8 : decode cX7_buys 8 = .ok (.ifCond .eq 12, 3) := by decide +kernel
theorem dX7_buys_11 : decode cX7_buys 11 = .ok (.iload_n 2, 1) := by decide +kernel
theorem dX7_buys_12 : decode cX7_buys 12 = .ok (.iconst 0, 1) := by decide +kernel
theorem dX7_buys_13 : decode cX7_buys 13 = .ok (.iconst 1, 1) := by decide +kernel
theorem dX7_buys_14 : decode cX7_buys 14 = .ok (.invokestatic 62, 3) := by decide +kernel
theorem dX7_buys_17 : decode cX7_buys 17 = .ok (.ifCond .ne 6, 3) := by decide +kernel
theorem dX7_buys_20 : decode cX7_buys 20 = .ok (.bipush (-2), 2) := by decide +kernel
theorem dX7_buys_22 : decode cX7_buys 22 = .ok (.ireturn, 1) := by decide +kernel
theorem dX7_buys_23 : decode cX7_buys 23 = .ok (.aload_n 0, 1) := by decide +kernel
theorem dX7_buys_24 : decode cX7_buys 24 = .ok (.getfield 10, 3) := by decide +kernel
theorem dX7_buys_27 : decode cX7_buys 27 = .ok (.iconst (-1), 1) := by decide +kernel
theorem dX7_buys_28 : decode cX7_buys 28 = .ok (.invokevirtual 162, 3) := by decide +kernel
theorem dX7_buys_31 : decode cX7_buys 31 = .ok (.istore_n 3, 1) := by decide +kernel
theorem dX7_buys_32 : decode cX7_buys 32 = .ok (.iconst 0, 1) := by decide +kernel
theorem dX7_buys_33 : decode cX7_buys 33 = .ok (.istore 4, 2) := by decide +kernel
theorem dX7_buys_35 : decode cX7_buys 35 = .ok (.iconst 0, 1) := by decide +kernel
theorem dX7_buys_36 : decode cX7_buys 36 = .ok (.istore 5, 2) := by decide +kernel
theorem dX7_buys_38 : decode cX7_buys 38 = .ok (.iconst 1, 1) := by decide +kernel
theorem dX7_buys_39 : decode cX7_buys 39 = .ok (.istore 6, 2) := by decide +kernel
theorem dX7_buys_41 : decode cX7_buys 41 = .ok (.iload 6, 2) := by decide +kernel
theorem dX7_buys_43 : decode cX7_buys 43 = .ok (.sipush 256, 3) := by decide +kernel
theorem dX7_buys_46 : decode cX7_buys 46 = .ok (.if_icmp .ge 50, 3) := by decide +kernel
theorem dX7_buys_49 : decode cX7_buys 49 = .ok (.iload 6, 2) := by decide +kernel
theorem dX7_buys_51 : decode cX7_buys 51 = .ok (.iload_n 3, 1) := by decide +kernel
theorem dX7_buys_52 : decode cX7_buys 52 = .ok (.iconst (-1), 1) := by decide +kernel
theorem dX7_buys_53 : decode cX7_buys 53 = .ok (.ixor, 1) := by decide +kernel
theorem dX7_buys_54 : decode cX7_buys 54 = .ok (.iand, 1) := by decide +kernel
theorem dX7_buys_55 : decode cX7_buys 55 = .ok (.ifCond .ne 35, 3) := by decide +kernel
theorem dX7_buys_58 : decode cX7_buys 58 = .ok (.aload_n 0, 1) := by decide +kernel
theorem dX7_buys_59 : decode cX7_buys 59 = .ok (.getfield 10, 3) := by decide +kernel
theorem dX7_buys_62 : decode cX7_buys 62 = .ok (.iload 6, 2) := by decide +kernel
theorem dX7_buys_64 : decode cX7_buys 64 = .ok (.invokevirtual 165, 3) := by decide +kernel
theorem dX7_buys_67 : decode cX7_buys 67 = .ok (.istore 7, 2) := by decide +kernel
theorem dX7_buys_69 : decode cX7_buys 69 = .ok (.iload 7, 2) := by decide +kernel
theorem dX7_buys_71 : decode cX7_buys 71 = .ok (.iload_n 1, 1) := by decide +kernel
theorem dX7_buys_72 : decode cX7_buys 72 = .ok (.if_icmp .gt 18, 3) := by decide +kernel
theorem dX7_buys_75 : decode cX7_buys 75 = .ok (.iload 7, 2) := by decide +kernel
theorem dX7_buys_77 : decode cX7_buys 77 = .ok (.iload 4, 2) := by decide +kernel
theorem dX7_buys_79 : decode cX7_buys 79 = .ok (.if_icmp .le 11, 3) := by decide +kernel
theorem dX7_buys_82 : decode cX7_buys 82 = .ok (.iload 7, 2) := by decide +kernel
theorem dX7_buys_84 : decode cX7_buys 84 = .ok (.istore 4, 2) := by decide +kernel
theorem dX7_buys_86 : decode cX7_buys 86 = .ok (.iload 6, 2) := by decide +kernel
theorem dX7_buys_88 : decode cX7_buys 88 = .ok (.istore 5, 2) := by decide +kernel
theorem dX7_buys_90 : decode cX7_buys 90 = .ok (.iinc 6 1, 3) := by decide +kernel
theorem dX7_buys_93 : decode cX7_buys 93 = .ok (.goto (-52), 3) := by decide +kernel
theorem dX7_buys_96 : decode cX7_buys 96 = .ok (.iload_n 2, 1) := by decide +kernel
theorem dX7_buys_97 : decode cX7_buys 97 = .ok (.ifCond .ne 8, 3) := by decide +kernel
theorem dX7_buys_100 : decode cX7_buys 100 = .ok (.iload 4, 2) := by decide +kernel
theorem dX7_buys_102 : decode cX7_buys 102 = .ok (.goto 5, 3) := by decide +kernel
theorem dX7_buys_105 : decode cX7_buys 105 = .ok (.iload 5, 2) := by decide +kernel
theorem dX7_buys_107 : decode cX7_buys 107 = .ok (.ireturn, 1) := by decide +kernel
theorem dX7_runs_0 : decode cX7_runs 0 = .ok (.iload_n 1, 1) := by decide +kernel
theorem dX7_runs_1 : decode cX7_runs 1 = .ok (.iconst 1, 1) := by decide +kernel
theorem dX7_runs_2 : decode cX7_runs 2 = .ok (.ldc 83, 2) := by decide +kernel
theorem dX7_runs_4 : decode cX7_runs 4 = .ok (.invokestatic 62, 3) := by decide +kernel
theorem dX7_runs_7 : decode cX7_runs 7 = .ok (.ifCond .eq 23, 3) := by decide +kernel
theorem dX7_runs_10 : decode cX7_runs 10 = .ok (.iload_n 2, 1) := by decide +kernel
theorem dX7_runs_11 : decode cX7_runs 11 = .ok (.iconst 0, 1) := by decide +kernel
theorem dX7_runs_12 : decode cX7_runs 12 = .ok (.bipush 99, 2) := by decide +kernel
theorem dX7_runs_14 : decode cX7_runs 14 = .ok (.invokestatic 62, 3) := by decide +kernel
theorem dX7_runs_17 : decode cX7_runs 17 = .ok (.ifCond .eq 13, 3) := by decide +kernel
theorem dX7_runs_20 : decode cX7_runs 20 = .ok (.iload_n 3, 1) := by decide +kernel
theorem dX7_runs_21 : decode cX7_runs 21 = .ok (.iconst 1, 1) := by decide +kernel
theorem dX7_runs_22 : decode cX7_runs 22 = .ok (.bipush 100, 2) := by decide +kernel
theorem dX7_runs_24 : decode cX7_runs 24 = .ok (.invokestatic 62, 3) := by decide +kernel
theorem dX7_runs_27 : decode cX7_runs 27 = .ok (.ifCond .ne 6, 3) := by decide +kernel
theorem dX7_runs_30 : decode cX7_runs 30 = .ok (.bipush (-2), 2) := by decide +kernel
theorem dX7_runs_32 : decode cX7_runs 32 = .ok (.ireturn, 1) := by decide +kernel
theorem dX7_runs_33 : decode cX7_runs 33 = .ok (.aload_n 0, 1) := by decide +kernel
theorem dX7_runs_34 : decode cX7_runs 34 = .ok (.getfield 10, 3) := by decide +kernel
theorem dX7_runs_37 : decode cX7_runs 37 = .ok (.invokevirtual 125, 3) := by decide +kernel
theorem dX7_runs_40 : decode cX7_runs 40 = .ok (.istore 4, 2) := by decide +kernel
theorem dX7_runs_42 : decode cX7_runs 42 = .ok (.iload_n 1, 1) := by decide +kernel
theorem dX7_runs_43 : decode cX7_runs 43 = .ok (.istore 5, 2) := by decide +kernel
theorem dX7_runs_45 : decode cX7_runs 45 = .ok (.iconst 0, 1) := by decide +kernel
theorem dX7_runs_46 : decode cX7_runs 46 = .ok (.istore 6, 2) := by decide +kernel
theorem dX7_runs_48 : decode cX7_runs 48 = .ok (.iload 6, 2) := by decide +kernel
theorem dX7_runs_50 : decode cX7_runs 50 = .ok (.bipush 100, 2) := by decide +kernel
theorem dX7_runs_52 : decode cX7_runs 52 = .ok (.if_icmp .gt 48, 3) := by decide +kernel
theorem dX7_runs_55 : decode cX7_runs 55 = .ok (.iload 4, 2) := by decide +kernel
theorem dX7_runs_57 : decode cX7_runs 57 = .ok (.iload 5, 2) := by decide +kernel
theorem dX7_runs_59 : decode cX7_runs 59 = .ok (.invokestatic 168, 3) := by decide +kernel
theorem dX7_runs_62 : decode cX7_runs 62 = .ok (.istore 7, 2) := by decide +kernel
theorem dX7_runs_64 : decode cX7_runs 64 = .ok (.iload 7, 2) := by decide +kernel
theorem dX7_runs_66 : decode cX7_runs 66 = .ok (.iload_n 3, 1) := by decide +kernel
theorem dX7_runs_67 : decode cX7_runs 67 = .ok (.if_icmp .ge 6, 3) := by decide +kernel
theorem dX7_runs_70 : decode cX7_runs 70 = .ok (.iload 6, 2) := by decide +kernel
theorem dX7_runs_72 : decode cX7_runs 72 = .ok (.ireturn, 1) := by decide +kernel
theorem dX7_runs_73 : decode cX7_runs 73 = .ok (.iload 5, 2) := by decide +kernel
theorem dX7_runs_75 : decode cX7_runs 75 = .ok (.iload 5, 2) := by decide +kernel
theorem dX7_runs_77 : decode cX7_runs 77 = .ok (.iload_n 2, 1) := by decide +kernel
theorem dX7_runs_78 : decode cX7_runs 78 = .ok (.imul, 1) := by decide +kernel
theorem dX7_runs_79 : decode cX7_runs 79 = .ok (.bipush 100, 2) := by decide +kernel
theorem dX7_runs_81 : decode cX7_runs 81 = .ok (.idiv, 1) := by decide +kernel
theorem dX7_runs_82 : decode cX7_runs 82 = .ok (.bipush 100, 2) := by decide +kernel
theorem dX7_runs_84 : decode cX7_runs 84 = .ok (.bipush 100, 2) := by decide +kernel
theorem dX7_runs_86 : decode cX7_runs 86 = .ok (.iload 7, 2) := by decide +kernel
theorem dX7_runs_88 : decode cX7_runs 88 = .ok (.isub, 1) := by decide +kernel
theorem dX7_runs_89 : decode cX7_runs 89 = .ok (.imul, 1) := by decide +kernel
theorem dX7_runs_90 : decode cX7_runs 90 = .ok (.iadd, 1) := by decide +kernel
theorem dX7_runs_91 : decode cX7_runs 91 = .ok (.iadd, 1) := by decide +kernel
theorem dX7_runs_92 : decode cX7_runs 92 = .ok (.istore 5, 2) := by decide +kernel
theorem dX7_runs_94 : decode cX7_runs 94 = .ok (.iinc 6 1, 3) := by decide +kernel
theorem dX7_runs_97 : decode cX7_runs 97 = .ok (.goto (-49), 3) := by decide +kernel
theorem dX7_runs_100 : decode cX7_runs 100 = .ok (.bipush (-6), 2) := by decide +kernel
theorem dX7_runs_102 : decode cX7_runs 102 = .ok (.ireturn, 1) := by decide +kernel
theorem dX7_wages_0 : decode cX7_wages 0 = .ok (.iload_n 1, 1) := by decide +kernel
theorem dX7_wages_1 : decode cX7_wages 1 = .ok (.iconst 0, 1) := by decide +kernel
theorem dX7_wages_2 : decode cX7_wages 2 = .ok (.ldc 171, 2) := by decide +kernel
theorem dX7_wages_4 : decode cX7_wages 4 = .ok (.invokestatic 62, 3) := by decide +kernel
theorem dX7_wages_7 : decode cX7_wages 7 = .ok (.ifCond .eq 13, 3) := by decide +kernel
theorem dX7_wages_10 : decode cX7_wages 10 = .ok (.iload_n 2, 1) := by decide +kernel
theorem dX7_wages_11 : decode cX7_wages 11 = .ok (.iconst 0, 1) := by decide +kernel
theorem dX7_wages_12 : decode cX7_wages 12 = .ok (.bipush 8, 2) := by decide +kernel
theorem dX7_wages_14 : decode cX7_wages 14 = .ok (.invokestatic 62, 3) := by decide +kernel
theorem dX7_wages_17 : decode cX7_wages 17 = .ok (.ifCond .ne 6, 3) := by decide +kernel
theorem dX7_wages_20 : decode cX7_wages 20 = .ok (.bipush (-2), 2) := by decide +kernel
theorem dX7_wages_22 : decode cX7_wages 22 = .ok (.ireturn, 1) := by decide +kernel
theorem dX7_wages_23 : decode cX7_wages 23 = .ok (.iconst 1, 1) := by decide +kernel
theorem dX7_wages_24 : decode cX7_wages 24 = .ok (.istore_n 3, 1) := by decide +kernel
theorem dX7_wages_25 : decode cX7_wages 25 = .ok (.iconst 0, 1) := by decide +kernel
theorem dX7_wages_26 : decode cX7_wages 26 = .ok (.istore 4, 2) := by decide +kernel
theorem dX7_wages_28 : decode cX7_wages 28 = .ok (.iload 4, 2) := by decide +kernel
theorem dX7_wages_30 : decode cX7_wages 30 = .ok (.iload_n 2, 1) := by decide +kernel
theorem dX7_wages_31 : decode cX7_wages 31 = .ok (.if_icmp .ge 14, 3) := by decide +kernel
theorem dX7_wages_34 : decode cX7_wages 34 = .ok (.iload_n 3, 1) := by decide +kernel
theorem dX7_wages_35 : decode cX7_wages 35 = .ok (.bipush 10, 2) := by decide +kernel
theorem dX7_wages_37 : decode cX7_wages 37 = .ok (.imul, 1) := by decide +kernel
theorem dX7_wages_38 : decode cX7_wages 38 = .ok (.istore_n 3, 1) := by decide +kernel
theorem dX7_wages_39 : decode cX7_wages 39 = .ok (.iinc 4 1, 3) := by decide +kernel
theorem dX7_wages_42 : decode cX7_wages 42 = .ok (.goto (-14), 3) := by decide +kernel
theorem dX7_wages_45 : decode cX7_wages 45 = .ok (.iload_n 1, 1) := by decide +kernel
theorem dX7_wages_46 : decode cX7_wages 46 = .ok (.istore 4, 2) := by decide +kernel
theorem dX7_wages_48 : decode cX7_wages 48 = .ok (.iload_n 1, 1) := by decide +kernel
theorem dX7_wages_49 : decode cX7_wages 49 = .ok (.iload_n 3, 1) := by decide +kernel
theorem dX7_wages_50 : decode cX7_wages 50 = .ok (.idiv, 1) := by decide +kernel
theorem dX7_wages_51 : decode cX7_wages 51 = .ok (.istore 5, 2) := by decide +kernel
theorem dX7_wages_53 : decode cX7_wages 53 = .ok (.iconst 0, 1) := by decide +kernel
theorem dX7_wages_54 : decode cX7_wages 54 = .ok (.istore 6, 2) := by decide +kernel
theorem dX7_wages_56 : decode cX7_wages 56 = .ok (.iconst 0, 1) := by decide +kernel
theorem dX7_wages_57 : decode cX7_wages 57 = .ok (.istore 7, 2) := by decide +kernel
theorem dX7_wages_59 : decode cX7_wages 59 = .ok (.iload 7, 2) := by decide +kernel
theorem dX7_wages_61 : decode cX7_wages 61 = .ok (.bipush 9, 2) := by decide +kernel
theorem dX7_wages_63 : decode cX7_wages 63 = .ok (.if_icmp .ge 43, 3) := by decide +kernel
theorem dX7_wages_66 : decode cX7_wages 66 = .ok (.iload 6, 2) := by decide +kernel
theorem dX7_wages_68 : decode cX7_wages 68 = .ok (.iconst 0, 1) := by decide +kernel
theorem dX7_wages_69 : decode cX7_wages 69 = .ok (.iload 4, 2) := by decide +kernel
theorem dX7_wages_71 : decode cX7_wages 71 = .ok (.bipush 10, 2) := by decide +kernel
theorem dX7_wages_73 : decode cX7_wages 73 = .ok (.irem, 1) := by decide +kernel
theorem dX7_wages_74 : decode cX7_wages 74 = .ok (.iload 5, 2) := by decide +kernel
theorem dX7_wages_76 : decode cX7_wages 76 = .ok (.bipush 10, 2) := by decide +kernel
theorem dX7_wages_78 : decode cX7_wages 78 = .ok (.irem, 1) := by decide +kernel
theorem dX7_wages_79 : decode cX7_wages 79 = .ok (.isub, 1) := by decide +kernel
theorem dX7_wages_80 : decode cX7_wages 80 = .ok (.invokestatic 172, 3) := by decide +kernel
theorem dX7_wages_83 : decode cX7_wages 83 = .ok (.iadd, 1) := by decide +kernel
theorem dX7_wages_84 : decode cX7_wages 84 = .ok (.istore 6, 2) := by decide +kernel
theorem dX7_wages_86 : decode cX7_wages 86 = .ok (.iload 4, 2) := by decide +kernel
theorem dX7_wages_88 : decode cX7_wages 88 = .ok (.bipush 10, 2) := by decide +kernel
theorem dX7_wages_90 : decode cX7_wages 90 = .ok (.idiv, 1) := by decide +kernel
theorem dX7_wages_91 : decode cX7_wages 91 = .ok (.istore 4, 2) := by decide +kernel
theorem dX7_wages_93 : decode cX7_wages 93 = .ok (.iload 5, 2) := by decide +kernel
theorem dX7_wages_95 : decode cX7_wages 95 = .ok (.bipush 10, 2) := by decide +kernel
theorem dX7_wages_97 : decode cX7_wages 97 = .ok (.idiv, 1) := by decide +kernel
theorem dX7_wages_98 : decode cX7_wages 98 = .ok (.istore 5, 2) := by decide +kernel
theorem dX7_wages_100 : decode cX7_wages 100 = .ok (.iinc 7 1, 3) := by decide +kernel
theorem dX7_wages_103 : decode cX7_wages 103 = .ok (.goto (-44), 3) := by decide +kernel
theorem dX7_wages_106 : decode cX7_wages 106 = .ok (.iload 6, 2) := by decide +kernel
theorem dX7_wages_108 : decode cX7_wages 108 = .ok (.ireturn, 1) := by decide +kernel
theorem dX7_change_0 : decode cX7_change 0 = .ok (.iload_n 1, 1) := by decide +kernel
theorem dX7_change_1 : decode cX7_change 1 = .ok (.iconst 0, 1) := by decide +kernel
theorem dX7_change_2 : decode cX7_change 2 = .ok (.bipush 60, 2) := by decide +kernel
theorem dX7_change_4 : decode cX7_change 4 = .ok (.invokestatic 62, 3) := by decide +kernel
theorem dX7_change_7 : decode cX7_change 7 = .ok (.ifCond .eq 43, 3) := by decide +kernel
theorem dX7_change_10 : decode cX7_change 10 = .ok (.iload_n 2, 1) := by decide +kernel
theorem dX7_change_11 : decode cX7_change 11 = .ok (.iconst 0, 1) := by decide +kernel
theorem dX7_change_12 : decode cX7_change 12 = .ok (.bipush 8, 2) := by decide +kernel
theorem dX7_change_14 : decode cX7_change 14 = .ok (.invokestatic 62, 3) := by decide +kernel
theorem dX7_change_17 : decode cX7_change 17 = .ok (.ifCond .eq 33, 3) := by decide +kernel
theorem dX7_change_20 : decode cX7_change 20 = .ok (.iload_n 3, 1) := by decide +kernel
theorem dX7_change_21 : decode cX7_change 21 = .ok (.iconst 0, 1) := by decide +kernel
theorem dX7_change_22 : decode cX7_change 22 = .ok (.bipush 10, 2) := by decide +kernel
theorem dX7_change_24 : decode cX7_change 24 = .ok (.invokestatic 62, 3) := by decide +kernel
theorem dX7_change_27 : decode cX7_change 27 = .ok (.ifCond .eq 23, 3) := by decide +kernel
theorem dX7_change_30 : decode cX7_change 30 = .ok (.iload 4, 2) := by decide +kernel
theorem dX7_change_32 : decode cX7_change 32 = .ok (.iconst 0, 1) := by decide +kernel
theorem dX7_change_33 : decode cX7_change 33 = .ok (.iconst 1, 1) := by decide +kernel
theorem dX7_change_34 : decode cX7_change 34 = .ok (.invokestatic 62, 3) := by decide +kernel
theorem dX7_change_37 : decode cX7_change 37 = .ok (.ifCond .eq 13, 3) := by decide +kernel
theorem dX7_change_40 : decode cX7_change 40 = .ok (.iload 5, 2) := by decide +kernel
theorem dX7_change_42 : decode cX7_change 42 = .ok (.iconst 0, 1) := by decide +kernel
theorem dX7_change_43 : decode cX7_change 43 = .ok (.iconst 1, 1) := by decide +kernel
theorem dX7_change_44 : decode cX7_change 44 = .ok (.invokestatic 62, 3) := by decide +kernel
theorem dX7_change_47 : decode cX7_change 47 = .ok (.ifCond .ne 7, 3) := by decide +kernel
theorem dX7_change_50 : decode cX7_change 50 = .ok (.ldc2_w 175, 3) := by decide +kernel
theorem dX7_change_53 : decode cX7_change 53 = .ok (.lreturn, 1) := by decide +kernel
theorem dX7_change_54 : decode cX7_change 54 = .ok (.lconst 1, 1) := by decide +kernel
theorem dX7_change_55 : decode cX7_change 55 = .ok (.lstore 6, 2) := by decide +kernel
theorem dX7_change_57 : decode cX7_change 57 = .ok (.iconst 0, 1) := by decide +kernel
theorem dX7_change_58 : decode cX7_change 58 = .ok (.istore 8, 2) := by decide +kernel
theorem dX7_change_60 : decode cX7_change 60 = .ok (.iload 8, 2) := by decide +kernel
theorem dX7_change_62 : decode cX7_change 62 = .ok (.iload_n 2, 1) := by decide +kernel
theorem dX7_change_63 : decode cX7_change 63 = .ok (.if_icmp .ge 17, 3) := by decide +kernel
theorem dX7_change_66 : decode cX7_change 66 = .ok (.lload 6, 2) := by decide +kernel
theorem dX7_change_68 : decode cX7_change 68 = .ok (.ldc2_w 177, 3) := by decide +kernel
theorem dX7_change_71 : decode cX7_change 71 = .ok (.lmul, 1) := by decide +kernel
theorem dX7_change_72 : decode cX7_change 72 = .ok (.lstore 6, 2) := by decide +kernel
theorem dX7_change_74 : decode cX7_change 74 = .ok (.iinc 8 1, 3) := by decide +kernel
theorem dX7_change_77 : decode cX7_change 77 = .ok (.goto (-17), 3) := by decide +kernel
theorem dX7_change_80 : decode cX7_change 80 = .ok (.aload_n 0, 1) := by decide +kernel
theorem dX7_change_81 : decode cX7_change 81 = .ok (.getfield 47, 3) := by decide +kernel
theorem dX7_change_84 : decode cX7_change 84 = .ok (.iload_n 1, 1) := by decide +kernel
theorem dX7_change_85 : decode cX7_change 85 = .ok (.iload_n 2, 1) := by decide +kernel
theorem dX7_change_86 : decode cX7_change 86 = .ok (.iload_n 3, 1) := by decide +kernel
theorem dX7_change_87 : decode cX7_change 87 = .ok (.invokevirtual 179, 3) := by decide +kernel
theorem dX7_change_90 : decode cX7_change 90 = .ok (.lstore 8, 2) := by decide +kernel
theorem dX7_change_92 : decode cX7_change 92 = .ok (.iload 4, 2) := by decide +kernel
theorem dX7_change_94 : decode cX7_change 94 = .ok (.iconst 1, 1) := by decide +kernel
theorem dX7_change_95 : decode cX7_change 95 = .ok (.if_icmp .ne 20, 3) := by decide +kernel
theorem dX7_change_98 : decode cX7_change 98 = .ok (.lload 8, 2) := by decide +kernel
theorem dX7_change_100 : decode cX7_change 100 = .ok (.iload_n 1, 1) := by decide +kernel
theorem dX7_change_101 : decode cX7_change 101 = .ok (.i2l, 1) := by decide +kernel
theorem dX7_change_102 : decode cX7_change 102 = .ok (.lload 6, 2) := by decide +kernel
theorem dX7_change_104 : decode cX7_change 104 = .ok (.lmul, 1) := by decide +kernel
theorem dX7_change_105 : decode cX7_change 105 = .ok (.lcmp, 1) := by decide +kernel
theorem dX7_change_106 : decode cX7_change 106 = .ok (.ifCond .ne 7, 3) := by decide +kernel
theorem dX7_change_109 : decode cX7_change 109 = .ok (.lconst 1, 1) := by decide +kernel
theorem dX7_change_110 : decode cX7_change 110 = .ok (.goto 4, 3) := by decide +kernel
theorem dX7_change_113 : decode cX7_change 113 = .ok (.lconst 0, 1) := by decide +kernel
theorem dX7_change_114 : decode cX7_change 114 = .ok (.lreturn, 1) := by decide +kernel
theorem dX7_change_115 : decode cX7_change 115 = .ok (.lload 8, 2) := by decide +kernel
theorem dX7_change_117 : decode cX7_change 117 = .ok (.lload 6, 2) := by decide +kernel
theorem dX7_change_119 : decode cX7_change 119 = .ok (.iload 5, 2) := by decide +kernel
theorem dX7_change_121 : decode cX7_change 121 = .ok (.invokestatic 183, 3) := by decide +kernel
theorem dX7_change_124 : decode cX7_change 124 = .ok (.lreturn, 1) := by decide +kernel
theorem dX7_sample_0 : decode cX7_sample 0 = .ok (.iload_n 1, 1) := by decide +kernel
theorem dX7_sample_1 : decode cX7_sample 1 = .ok (.iconst 1, 1) := by decide +kernel
theorem dX7_sample_2 : decode cX7_sample 2 = .ok (.bipush 30, 2) := by decide +kernel
theorem dX7_sample_4 : decode cX7_sample 4 = .ok (.invokestatic 62, 3) := by decide +kernel
theorem dX7_sample_7 : decode cX7_sample 7 = .ok (.ifCond .eq 41, 3) := by decide +kernel
theorem dX7_sample_10 : decode cX7_sample 10 = .ok (.iload_n 2, 1) := by decide +kernel
theorem dX7_sample_11 : decode cX7_sample 11 = .ok (.iconst 0, 1) := by decide +kernel
theorem dX7_sample_12 : decode cX7_sample 12 = .ok (.iload_n 1, 1) := by decide +kernel
theorem dX7_sample_13 : decode cX7_sample 13 = .ok (.invokestatic 62, 3) := by decide +kernel
theorem dX7_sample_16 : decode cX7_sample 16 = .ok (.ifCond .eq 32, 3) := by decide +kernel
theorem dX7_sample_19 : decode cX7_sample 19 = .ok (.iload_n 3, 1) := by decide +kernel
theorem dX7_sample_20 : decode cX7_sample 20 = .ok (.iconst 0, 1) := by decide +kernel
theorem dX7_sample_21 : decode cX7_sample 21 = .ok (.iload_n 1, 1) := by decide +kernel
theorem dX7_sample_22 : decode cX7_sample 22 = .ok (.invokestatic 62, 3) := by decide +kernel
theorem dX7_sample_25 : decode cX7_sample 25 = .ok (.ifCond .eq 23, 3) := by decide +kernel
theorem dX7_sample_28 : decode cX7_sample 28 = .ok (.iload 4, 2) := by decide +kernel
theorem dX7_sample_30 : decode cX7_sample 30 = .ok (.iconst 0, 1) := by decide +kernel
theorem dX7_sample_31 : decode cX7_sample 31 = .ok (.iload_n 3, 1) := by decide +kernel
theorem dX7_sample_32 : decode cX7_sample 32 = .ok (.invokestatic 62, 3) := by decide +kernel
theorem dX7_sample_35 : decode cX7_sample 35 = .ok (.ifCond .eq 13, 3) := by decide +kernel
theorem dX7_sample_38 : decode cX7_sample 38 = .ok (.iload 5, 2) := by decide +kernel
theorem dX7_sample_40 : decode cX7_sample 40 = .ok (.iconst 0, 1) := by decide +kernel
theorem dX7_sample_41 : decode cX7_sample 41 = .ok (.iconst 1, 1) := by decide +kernel
theorem dX7_sample_42 : decode cX7_sample 42 = .ok (.invokestatic 62, 3) := by decide +kernel
theorem dX7_sample_45 : decode cX7_sample 45 = .ok (.ifCond .ne 7, 3) := by decide +kernel
theorem dX7_sample_48 : decode cX7_sample 48 = .ok (.ldc2_w 175, 3) := by decide +kernel
theorem dX7_sample_51 : decode cX7_sample 51 = .ok (.lreturn, 1) := by decide +kernel
theorem dX7_sample_52 : decode cX7_sample 52 = .ok (.iload_n 2, 1) := by decide +kernel
theorem dX7_sample_53 : decode cX7_sample 53 = .ok (.iload 4, 2) := by decide +kernel
theorem dX7_sample_55 : decode cX7_sample 55 = .ok (.invokestatic 187, 3) := by decide +kernel
theorem dX7_sample_58 : decode cX7_sample 58 = .ok (.iload_n 1, 1) := by decide +kernel
theorem dX7_sample_59 : decode cX7_sample 59 = .ok (.iload_n 2, 1) := by decide +kernel
theorem dX7_sample_60 : decode cX7_sample 60 = .ok (.isub, 1) := by decide +kernel
theorem dX7_sample_61 : decode cX7_sample 61 = .ok (.iload_n 3, 1) := by decide +kernel
theorem dX7_sample_62 : decode cX7_sample 62 = .ok (.iload 4, 2) := by decide +kernel
theorem dX7_sample_64 : decode cX7_sample 64 = .ok (.isub, 1) := by decide +kernel
theorem dX7_sample_65 : decode cX7_sample 65 = .ok (.invokestatic 187, 3) := by decide +kernel
theorem dX7_sample_68 : decode cX7_sample 68 = .ok (.lmul, 1) := by decide +kernel
theorem dX7_sample_69 : decode cX7_sample 69 = .ok (.iload_n 1, 1) := by decide +kernel
theorem dX7_sample_70 : decode cX7_sample 70 = .ok (.iload_n 3, 1) := by decide +kernel
theorem dX7_sample_71 : decode cX7_sample 71 = .ok (.invokestatic 187, 3) := by decide +kernel
theorem dX7_sample_74 : decode cX7_sample 74 = .ok (.iload 5, 2) := by decide +kernel
theorem dX7_sample_76 : decode cX7_sample 76 = .ok (.invokestatic 183, 3) := by decide +kernel
theorem dX7_sample_79 : decode cX7_sample 79 = .ok (.lreturn, 1) := by decide +kernel
theorem dX7_seen_0 : decode cX7_seen 0 = .ok (.iload_n 1, 1) := by decide +kernel
theorem dX7_seen_1 : decode cX7_seen 1 = .ok (.iconst 0, 1) := by decide +kernel
theorem dX7_seen_2 : decode cX7_seen 2 = .ok (.sipush 255, 3) := by decide +kernel
theorem dX7_seen_5 : decode cX7_seen 5 = .ok (.invokestatic 62, 3) := by decide +kernel
theorem dX7_seen_8 : decode cX7_seen 8 = .ok (.ifCond .eq 22, 3) := by decide +kernel
theorem dX7_seen_11 : decode cX7_seen 11 = .ok (.iload_n 2, 1) := by decide +kernel
theorem dX7_seen_12 : decode cX7_seen 12 = .ok (.iconst 0, 1) := by decide +kernel
theorem dX7_seen_13 : decode cX7_seen 13 = .ok (.bipush 8, 2) := by decide +kernel
theorem dX7_seen_15 : decode cX7_seen 15 = .ok (.invokestatic 62, 3) := by decide +kernel
theorem dX7_seen_18 : decode cX7_seen 18 = .ok (.ifCond .eq 12, 3) := by decide +kernel
theorem dX7_seen_21 : decode cX7_seen 21 = .ok (.iload_n 3, 1) := by decide +kernel
theorem dX7_seen_22 : decode cX7_seen 22 = .ok (.iconst 0, 1) := by decide +kernel
theorem dX7_seen_23 : decode cX7_seen 23 = .ok (.iconst 1, 1) := by decide +kernel
theorem dX7_seen_24 : decode cX7_seen 24 = .ok (.invokestatic 62, 3) := by decide +kernel
theorem dX7_seen_27 : decode cX7_seen 27 = .ok (.ifCond .ne 6, 3) := by decide +kernel
theorem dX7_seen_30 : decode cX7_seen 30 = .ok (.bipush (-2), 2) := by decide +kernel
theorem dX7_seen_32 : decode cX7_seen 32 = .ok (.ireturn, 1) := by decide +kernel
theorem dX7_seen_33 : decode cX7_seen 33 = .ok (.aload_n 0, 1) := by decide +kernel
theorem dX7_seen_34 : decode cX7_seen 34 = .ok (.getfield 19, 3) := by decide +kernel
theorem dX7_seen_37 : decode cX7_seen 37 = .ok (.getfield 191, 3) := by decide +kernel
theorem dX7_seen_40 : decode cX7_seen 40 = .ok (.bipush 8, 2) := by decide +kernel
theorem dX7_seen_42 : decode cX7_seen 42 = .ok (.if_icmp .ne 6, 3) := by decide +kernel
theorem dX7_seen_45 : decode cX7_seen 45 = .ok (.bipush (-4), 2) := by decide +kernel
theorem dX7_seen_47 : decode cX7_seen 47 = .ok (.ireturn, 1) := by decide +kernel
theorem dX7_seen_48 : decode cX7_seen 48 = .ok (.aload_n 0, 1) := by decide +kernel
theorem dX7_seen_49 : decode cX7_seen 49 = .ok (.getfield 19, 3) := by decide +kernel
theorem dX7_seen_52 : decode cX7_seen 52 = .ok (.iload_n 1, 1) := by decide +kernel
theorem dX7_seen_53 : decode cX7_seen 53 = .ok (.iload_n 2, 1) := by decide +kernel
theorem dX7_seen_54 : decode cX7_seen 54 = .ok (.iload_n 3, 1) := by decide +kernel
theorem dX7_seen_55 : decode cX7_seen 55 = .ok (.invokevirtual 192, 3) := by decide +kernel
theorem dX7_seen_58 : decode cX7_seen 58 = .ok (.aload_n 0, 1) := by decide +kernel
theorem dX7_seen_59 : decode cX7_seen 59 = .ok (.getfield 19, 3) := by decide +kernel
theorem dX7_seen_62 : decode cX7_seen 62 = .ok (.getfield 191, 3) := by decide +kernel
theorem dX7_seen_65 : decode cX7_seen 65 = .ok (.ireturn, 1) := by decide +kernel
theorem dX7_forget_0 : decode cX7_forget 0 = .ok (.aload_n 0, 1) := by decide +kernel
theorem dX7_forget_1 : decode cX7_forget 1 = .ok (.getfield 19, 3) := by decide +kernel
theorem dX7_forget_4 : decode cX7_forget 4 = .ok (.getfield 191, 3) := by decide +kernel
theorem dX7_forget_7 : decode cX7_forget 7 = .ok (.istore_n 1, 1) := by decide +kernel
theorem dX7_forget_8 : decode cX7_forget 8 = .ok (.aload_n 0, 1) := by decide +kernel
theorem dX7_forget_9 : decode cX7_forget 9 = .ok (.getfield 19, 3) := by decide +kernel
theorem dX7_forget_12 : decode cX7_forget 12 = .ok (.iconst 0, 1) := by decide +kernel
theorem dX7_forget_13 : decode cX7_forget 13 = .ok (.putfield 191, 3) := by decide +kernel
theorem dX7_forget_16 : decode cX7_forget 16 = .ok (.iload_n 1, 1) := by decide +kernel
theorem dX7_forget_17 : decode cX7_forget 17 = .ok (.ireturn, 1) := by decide +kernel
theorem dX7_clerks_0 : decode cX7_clerks 0 = .ok (.iload_n 1, 1) := by decide +kernel
theorem dX7_clerks_1 : decode cX7_clerks 1 = .ok (.iconst 0, 1) := by decide +kernel
theorem dX7_clerks_2 : decode cX7_clerks 2 = .ok (.iconst 3, 1) := by decide +kernel
theorem dX7_clerks_3 : decode cX7_clerks 3 = .ok (.invokestatic 62, 3) := by decide +kernel
theorem dX7_clerks_6 : decode cX7_clerks 6 = .ok (.ifCond .ne 6, 3) := by decide +kernel
theorem dX7_clerks_9 : decode cX7_clerks 9 = .ok (.bipush (-2), 2) := by decide +kernel
theorem dX7_clerks_11 : decode cX7_clerks 11 = .ok (.ireturn, 1) := by decide +kernel
theorem dX7_clerks_12 : decode cX7_clerks 12 = .ok (.iconst 0, 1) := by decide +kernel
theorem dX7_clerks_13 : decode cX7_clerks 13 = .ok (.istore_n 3, 1) := by decide +kernel
theorem dX7_clerks_14 : decode cX7_clerks 14 = .ok (.iconst 0, 1) := by decide +kernel
theorem dX7_clerks_15 : decode cX7_clerks 15 = .ok (.istore 4, 2) := by decide +kernel
theorem dX7_clerks_17 : decode cX7_clerks 17 = .ok (.iload 4, 2) := by decide +kernel
theorem dX7_clerks_19 : decode cX7_clerks 19 = .ok (.sipush 256, 3) := by decide +kernel
theorem dX7_clerks_22 : decode cX7_clerks 22 = .ok (.if_icmp .ge 33, 3) := by decide +kernel
theorem dX7_clerks_25 : decode cX7_clerks 25 = .ok (.aload_n 0, 1) := by decide +kernel
theorem dX7_clerks_26 : decode cX7_clerks 26 = .ok (.getfield 19, 3) := by decide +kernel
theorem dX7_clerks_29 : decode cX7_clerks 29 = .ok (.iload 4, 2) := by decide +kernel
theorem dX7_clerks_31 : decode cX7_clerks 31 = .ok (.iload_n 1, 1) := by decide +kernel
theorem dX7_clerks_32 : decode cX7_clerks 32 = .ok (.invokevirtual 195, 3) := by decide +kernel
theorem dX7_clerks_35 : decode cX7_clerks 35 = .ok (.ifCond .eq 14, 3) := by decide +kernel
theorem dX7_clerks_38 : decode cX7_clerks 38 = .ok (.iload_n 3, 1) := by decide +kernel
theorem dX7_clerks_39 : decode cX7_clerks 39 = .ok (.iload_n 2, 1) := by decide +kernel
theorem dX7_clerks_40 : decode cX7_clerks 40 = .ok (.if_icmp .ne 6, 3) := by decide +kernel
theorem dX7_clerks_43 : decode cX7_clerks 43 = .ok (.iload 4, 2) := by decide +kernel
theorem dX7_clerks_45 : decode cX7_clerks 45 = .ok (.ireturn, 1) := by decide +kernel
theorem dX7_clerks_46 : decode cX7_clerks 46 = .ok (.iinc 3 1, 3) := by decide +kernel
theorem dX7_clerks_49 : decode cX7_clerks 49 = .ok (.iinc 4 1, 3) := by decide +kernel
theorem dX7_clerks_52 : decode cX7_clerks 52 = .ok (.goto (-35), 3) := by decide +kernel
theorem dX7_clerks_55 : decode cX7_clerks 55 = .ok (.iload_n 2, 1) := by decide +kernel
theorem dX7_clerks_56 : decode cX7_clerks 56 = .ok (.iconst (-1), 1) := by decide +kernel
theorem dX7_clerks_57 : decode cX7_clerks 57 = .ok (.if_icmp .ne 7, 3) := by decide +kernel
theorem dX7_clerks_60 : decode cX7_clerks 60 = .ok (.iload_n 3, 1) := by decide +kernel
theorem dX7_clerks_61 : decode cX7_clerks 61 = .ok (.goto 5, 3) := by decide +kernel
theorem dX7_clerks_64 : decode cX7_clerks 64 = .ok (.bipush (-6), 2) := by decide +kernel
theorem dX7_clerks_66 : decode cX7_clerks 66 = .ok (.ireturn, 1) := by decide +kernel
theorem dX7_count_0 : decode cX7_count 0 = .ok (.iload_n 1, 1) := by decide +kernel
theorem dX7_count_1 : decode cX7_count 1 = .ok (.iconst 0, 1) := by decide +kernel
theorem dX7_count_2 : decode cX7_count 2 = .ok (.iconst 3, 1) := by decide +kernel
theorem dX7_count_3 : decode cX7_count 3 = .ok (.invokestatic 62, 3) := by decide +kernel
theorem dX7_count_6 : decode cX7_count 6 = .ok (.ifCond .eq 12, 3) := by decide +kernel
theorem dX7_count_9 : decode cX7_count 9 = .ok (.iload_n 2, 1) := by decide +kernel
theorem dX7_count_10 : decode cX7_count 10 = .ok (.iconst 0, 1) := by decide +kernel
theorem dX7_count_11 : decode cX7_count 11 = .ok (.iconst 1, 1) := by decide +kernel
theorem dX7_count_12 : decode cX7_count 12 = .ok (.invokestatic 62, 3) := by decide +kernel
theorem dX7_count_15 : decode cX7_count 15 = .ok (.ifCond .ne 6, 3) := by decide +kernel
theorem dX7_count_18 : decode cX7_count 18 = .ok (.bipush (-2), 2) := by decide +kernel
theorem dX7_count_20 : decode cX7_count 20 = .ok (.ireturn, 1) := by decide +kernel
theorem dX7_count_21 : decode cX7_count 21 = .ok (.aload_n 0, 1) := by decide +kernel
theorem dX7_count_22 : decode cX7_count 22 = .ok (.getfield 19, 3) := by decide +kernel
theorem dX7_count_25 : decode cX7_count 25 = .ok (.iload_n 1, 1) := by decide +kernel
theorem dX7_count_26 : decode cX7_count 26 = .ok (.invokevirtual 199, 3) := by decide +kernel
theorem dX7_count_29 : decode cX7_count 29 = .ok (.istore_n 3, 1) := by decide +kernel
theorem dX7_count_30 : decode cX7_count 30 = .ok (.iload_n 3, 1) := by decide +kernel
theorem dX7_count_31 : decode cX7_count 31 = .ok (.ifCond .ne 6, 3) := by decide +kernel
theorem dX7_count_34 : decode cX7_count 34 = .ok (.bipush (-6), 2) := by decide +kernel
theorem dX7_count_36 : decode cX7_count 36 = .ok (.ireturn, 1) := by decide +kernel
theorem dX7_count_37 : decode cX7_count 37 = .ok (.iconst 0, 1) := by decide +kernel
theorem dX7_count_38 : decode cX7_count 38 = .ok (.istore 4, 2) := by decide +kernel
theorem dX7_count_40 : decode cX7_count 40 = .ok (.iconst 1, 1) := by decide +kernel
theorem dX7_count_41 : decode cX7_count 41 = .ok (.istore 5, 2) := by decide +kernel
theorem dX7_count_43 : decode cX7_count 43 = .ok (.iload 5, 2) := by decide +kernel
theorem dX7_count_45 : decode cX7_count 45 = .ok (.bipush 8, 2) := by decide +kernel
theorem dX7_count_47 : decode cX7_count 47 = .ok (.if_icmp .ge 36, 3) := by decide +kernel
theorem dX7_count_50 : decode cX7_count 50 = .ok (.aload_n 0, 1) := by decide +kernel
theorem dX7_count_51 : decode cX7_count 51 = .ok (.getfield 19, 3) := by decide +kernel
theorem dX7_count_54 : decode cX7_count 54 = .ok (.iload 5, 2) := by decide +kernel
theorem dX7_count_56 : decode cX7_count 56 = .ok (.iload_n 3, 1) := by decide +kernel
theorem dX7_count_57 : decode cX7_count 57 = .ok (.invokevirtual 202, 3) := by decide +kernel
theorem dX7_count_60 : decode cX7_count 60 = .ok (.aload_n 0, 1) := by decide +kernel
theorem dX7_count_61 : decode cX7_count 61 = .ok (.getfield 19, 3) := by decide +kernel
theorem dX7_count_64 : decode cX7_count 64 = .ok (.iload 4, 2) := by decide +kernel
theorem dX7_count_66 : decode cX7_count 66 = .ok (.iload_n 3, 1) := by decide +kernel
theorem dX7_count_67 : decode cX7_count 67 = .ok (.invokevirtual 202, 3) := by decide +kernel
theorem dX7_count_70 : decode cX7_count 70 = .ok (.if_icmp .ge 7, 3) := by decide +kernel
theorem dX7_count_73 : decode cX7_count 73 = .ok (.iload 5, 2) := by decide +kernel
theorem dX7_count_75 : decode cX7_count 75 = .ok (.istore 4, 2) := by decide +kernel
theorem dX7_count_77 : decode cX7_count 77 = .ok (.iinc 5 1, 3) := by decide +kernel
theorem dX7_count_80 : decode cX7_count 80 = .ok (.goto (-37), 3) := by decide +kernel
theorem dX7_count_83 : decode cX7_count 83 = .ok (.iload_n 2, 1) := by decide +kernel
theorem dX7_count_84 : decode cX7_count 84 = .ok (.ifCond .ne 8, 3) := by decide +kernel
theorem dX7_count_87 : decode cX7_count 87 = .ok (.iload 4, 2) := by decide +kernel
theorem dX7_count_89 : decode cX7_count 89 = .ok (.goto 13, 3) := by decide +kernel
theorem dX7_count_92 : decode cX7_count 92 = .ok (.aload_n 0, 1) := by decide +kernel
theorem dX7_count_93 : decode cX7_count 93 = .ok (.getfield 19, 3) := by decide +kernel
theorem dX7_count_96 : decode cX7_count 96 = .ok (.iload 4, 2) := by decide +kernel
theorem dX7_count_98 : decode cX7_count 98 = .ok (.iload_n 3, 1) := by decide +kernel
theorem dX7_count_99 : decode cX7_count 99 = .ok (.invokevirtual 202, 3) := by decide +kernel
theorem dX7_count_102 : decode cX7_count 102 = .ok (.ireturn, 1) := by decide +kernel
theorem dX7_year_0 : decode cX7_year 0 = .ok (.iload_n 1, 1) := by decide +kernel
theorem dX7_year_1 : decode cX7_year 1 = .ok (.iconst 0, 1) := by decide +kernel
theorem dX7_year_2 : decode cX7_year 2 = .ok (.sipush 9999, 3) := by decide +kernel
theorem dX7_year_5 : decode cX7_year 5 = .ok (.invokestatic 62, 3) := by decide +kernel
theorem dX7_year_8 : decode cX7_year 8 = .ok (.ifCond .eq 22, 3) := by decide +kernel
theorem dX7_year_11 : decode cX7_year 11 = .ok (.iload_n 2, 1) := by decide +kernel
theorem dX7_year_12 : decode cX7_year 12 = .ok (.iconst 1, 1) := by decide +kernel
theorem dX7_year_13 : decode cX7_year 13 = .ok (.bipush 99, 2) := by decide +kernel
theorem dX7_year_15 : decode cX7_year 15 = .ok (.invokestatic 62, 3) := by decide +kernel
theorem dX7_year_18 : decode cX7_year 18 = .ok (.ifCond .eq 12, 3) := by decide +kernel
theorem dX7_year_21 : decode cX7_year 21 = .ok (.iload_n 3, 1) := by decide +kernel
theorem dX7_year_22 : decode cX7_year 22 = .ok (.iconst 0, 1) := by decide +kernel
theorem dX7_year_23 : decode cX7_year 23 = .ok (.iconst 2, 1) := by decide +kernel
theorem dX7_year_24 : decode cX7_year 24 = .ok (.invokestatic 62, 3) := by decide +kernel
theorem dX7_year_27 : decode cX7_year 27 = .ok (.ifCond .ne 6, 3) := by decide +kernel
theorem dX7_year_30 : decode cX7_year 30 = .ok (.bipush (-2), 2) := by decide +kernel
theorem dX7_year_32 : decode cX7_year 32 = .ok (.ireturn, 1) := by decide +kernel
theorem dX7_year_33 : decode cX7_year 33 = .ok (.aload_n 0, 1) := by decide +kernel
theorem dX7_year_34 : decode cX7_year 34 = .ok (.getfield 33, 3) := by decide +kernel
theorem dX7_year_37 : decode cX7_year 37 = .ok (.getfield 115, 3) := by decide +kernel
theorem dX7_year_40 : decode cX7_year 40 = .ok (.astore 4, 2) := by decide +kernel
theorem dX7_year_42 : decode cX7_year 42 = .ok (.aload 4, 2) := by decide +kernel
theorem dX7_year_44 : decode cX7_year 44 = .ok (.aload_n 0, 1) := by decide +kernel
theorem dX7_year_45 : decode cX7_year 45 = .ok (.getfield 10, 3) := by decide +kernel
theorem dX7_year_48 : decode cX7_year 48 = .ok (.invokevirtual 140, 3) := by decide +kernel
theorem dX7_year_51 : decode cX7_year 51 = .ok (.iload_n 1, 1) := by decide +kernel
theorem dX7_year_52 : decode cX7_year 52 = .ok (.istore 5, 2) := by decide +kernel
theorem dX7_year_54 : decode cX7_year 54 = .ok (.iconst 0, 1) := by decide +kernel
theorem dX7_year_55 : decode cX7_year 55 = .ok (.istore 6, 2) := by decide +kernel
theorem dX7_year_57 : decode cX7_year 57 = .ok (.iload 6, 2) := by decide +kernel
theorem dX7_year_59 : decode cX7_year 59 = .ok (.iload_n 2, 1) := by decide +kernel
theorem dX7_year_60 : decode cX7_year 60 = .ok (.if_icmp .ge 55, 3) := by decide +kernel
theorem dX7_year_63 : decode cX7_year 63 = .ok (.bipush 75, 2) := by decide +kernel
theorem dX7_year_65 : decode cX7_year 65 = .ok (.iload 5, 2) := by decide +kernel
theorem dX7_year_67 : decode cX7_year 67 = .ok (.imul, 1) := by decide +kernel
theorem dX7_year_68 : decode cX7_year 68 = .ok (.bipush 74, 2) := by decide +kernel
theorem dX7_year_70 : decode cX7_year 70 = .ok (.iadd, 1) := by decide +kernel
theorem dX7_year_71 : decode cX7_year 71 = .ok (.ldc 205, 2) := by decide +kernel
theorem dX7_year_73 : decode cX7_year 73 = .ok (.irem, 1) := by decide +kernel
theorem dX7_year_74 : decode cX7_year 74 = .ok (.istore 5, 2) := by decide +kernel
theorem dX7_year_76 : decode cX7_year 76 = .ok (.iload 5, 2) := by decide +kernel
theorem dX7_year_78 : decode cX7_year 78 = .ok (.bipush 6, 2) := by decide +kernel
theorem dX7_year_80 : decode cX7_year 80 = .ok (.idiv, 1) := by decide +kernel
theorem dX7_year_81 : decode cX7_year 81 = .ok (.bipush 8, 2) := by decide +kernel
theorem dX7_year_83 : decode cX7_year 83 = .ok (.irem, 1) := by decide +kernel
theorem dX7_year_84 : decode cX7_year 84 = .ok (.istore 7, 2) := by decide +kernel
theorem dX7_year_86 : decode cX7_year 86 = .ok (.aload 4, 2) := by decide +kernel
theorem dX7_year_88 : decode cX7_year 88 = .ok (.iload 7, 2) := by decide +kernel
theorem dX7_year_90 : decode cX7_year 90 = .ok (.iload 5, 2) := by decide +kernel
theorem dX7_year_92 : decode cX7_year 92 = .ok (.bipush 6, 2) := by decide +kernel
theorem dX7_year_94 : decode cX7_year 94 = .ok (.irem, 1) := by decide +kernel
theorem dX7_year_95 : decode cX7_year 95 = .ok (.iload 7, 2) := by decide +kernel
theorem dX7_year_97 : decode cX7_year 97 = .ok (.iload 5, 2) := by decide +kernel
theorem dX7_year_99 : decode cX7_year 99 = .ok (.bipush 48, 2) := by decide +kernel
theorem dX7_year_101 : decode cX7_year 101 = .ok (.idiv, 1) := by decide +kernel
theorem dX7_year_102 : decode cX7_year 102 = .ok (.invokestatic 206, 3) := by decide +kernel
theorem dX7_year_105 : decode cX7_year 105 = .ok (.invokevirtual 209, 3) := by decide +kernel
theorem dX7_year_108 : decode cX7_year 108 = .ok (.pop, 1) := by decide +kernel
theorem dX7_year_109 : decode cX7_year 109 = .ok (.iinc 6 1, 3) := by decide +kernel
theorem dX7_year_112 : decode cX7_year 112 = .ok (.goto (-55), 3) := by decide +kernel
theorem dX7_year_115 : decode cX7_year 115 = .ok (.iload_n 3, 1) := by decide +kernel
theorem dX7_year_116 : decode cX7_year 116 = .ok (.lookupswitch 40 #[(0, 28), (1, 34)], 28) := by decide +kernel
theorem dX7_year_144 : decode cX7_year 144 = .ok (.aload 4, 2) := by decide +kernel
theorem dX7_year_146 : decode cX7_year 146 = .ok (.invokevirtual 122, 3) := by decide +kernel
theorem dX7_year_149 : decode cX7_year 149 = .ok (.ireturn, 1) := by decide +kernel
theorem dX7_year_150 : decode cX7_year 150 = .ok (.aload 4, 2) := by decide +kernel
theorem dX7_year_152 : decode cX7_year 152 = .ok (.invokevirtual 128, 3) := by decide +kernel
theorem dX7_year_155 : decode cX7_year 155 = .ok (.ireturn, 1) := by decide +kernel
theorem dX7_year_156 : decode cX7_year 156 = .ok (.aload 4, 2) := by decide +kernel
theorem dX7_year_158 : decode cX7_year 158 = .ok (.iconst (-1), 1) := by decide +kernel
theorem dX7_year_159 : decode cX7_year 159 = .ok (.invokevirtual 162, 3) := by decide +kernel
theorem dX7_year_162 : decode cX7_year 162 = .ok (.invokestatic 213, 3) := by decide +kernel
theorem dX7_year_165 : decode cX7_year 165 = .ok (.ireturn, 1) := by decide +kernel
theorem dX7_image_0 : decode cX7_image 0 = .ok (.iload_n 1, 1) := by decide +kernel
theorem dX7_image_1 : decode cX7_image 1 = .ok (.iconst 0, 1) := by decide +kernel
theorem dX7_image_2 : decode cX7_image 2 = .ok (.iconst 1, 1) := by decide +kernel
theorem dX7_image_3 : decode cX7_image 3 = .ok (.invokestatic 62, 3) := by decide +kernel
theorem dX7_image_6 : decode cX7_image 6 = .ok (.ifCond .ne 6, 3) := by decide +kernel
theorem dX7_image_9 : decode cX7_image 9 = .ok (.bipush (-2), 2) := by decide +kernel
theorem dX7_image_11 : decode cX7_image 11 = .ok (.ireturn, 1) := by decide +kernel
theorem dX7_image_12 : decode cX7_image 12 = .ok (.aload_n 0, 1) := by decide +kernel
theorem dX7_image_13 : decode cX7_image 13 = .ok (.getfield 53, 3) := by decide +kernel
theorem dX7_image_16 : decode cX7_image 16 = .ok (.iload_n 1, 1) := by decide +kernel
theorem dX7_image_17 : decode cX7_image 17 = .ok (.aaload, 1) := by decide +kernel
theorem dX7_image_18 : decode cX7_image 18 = .ok (.getfield 218, 3) := by decide +kernel
theorem dX7_image_21 : decode cX7_image 21 = .ok (.aload_n 0, 1) := by decide +kernel
theorem dX7_image_22 : decode cX7_image 22 = .ok (.getfield 10, 3) := by decide +kernel
theorem dX7_image_25 : decode cX7_image 25 = .ok (.invokevirtual 140, 3) := by decide +kernel
theorem dX7_image_28 : decode cX7_image 28 = .ok (.aload_n 0, 1) := by decide +kernel
theorem dX7_image_29 : decode cX7_image 29 = .ok (.getfield 53, 3) := by decide +kernel
theorem dX7_image_32 : decode cX7_image 32 = .ok (.iload_n 1, 1) := by decide +kernel
theorem dX7_image_33 : decode cX7_image 33 = .ok (.aaload, 1) := by decide +kernel
theorem dX7_image_34 : decode cX7_image 34 = .ok (.getfield 219, 3) := by decide +kernel
theorem dX7_image_37 : decode cX7_image 37 = .ok (.aload_n 0, 1) := by decide +kernel
theorem dX7_image_38 : decode cX7_image 38 = .ok (.getfield 19, 3) := by decide +kernel
theorem dX7_image_41 : decode cX7_image 41 = .ok (.invokevirtual 220, 3) := by decide +kernel
theorem dX7_image_44 : decode cX7_image 44 = .ok (.aload_n 0, 1) := by decide +kernel
theorem dX7_image_45 : decode cX7_image 45 = .ok (.getfield 53, 3) := by decide +kernel
theorem dX7_image_48 : decode cX7_image 48 = .ok (.iload_n 1, 1) := by decide +kernel
theorem dX7_image_49 : decode cX7_image 49 = .ok (.aaload, 1) := by decide +kernel
theorem dX7_image_50 : decode cX7_image 50 = .ok (.iconst 1, 1) := by decide +kernel
theorem dX7_image_51 : decode cX7_image 51 = .ok (.putfield 223, 3) := by decide +kernel
theorem dX7_image_54 : decode cX7_image 54 = .ok (.iconst 1, 1) := by decide +kernel
theorem dX7_image_55 : decode cX7_image 55 = .ok (.ireturn, 1) := by decide +kernel
theorem dX7_restore_0 : decode cX7_restore 0 = .ok (.iload_n 1, 1) := by decide +kernel
theorem dX7_restore_1 : decode cX7_restore 1 = .ok (.iconst 0, 1) := by decide +kernel
theorem dX7_restore_2 : decode cX7_restore 2 = .ok (.iconst 1, 1) := by decide +kernel
theorem dX7_restore_3 : decode cX7_restore 3 = .ok (.invokestatic 62, 3) := by decide +kernel
theorem dX7_restore_6 : decode cX7_restore 6 = .ok (.ifCond .ne 6, 3) := by decide +kernel
theorem dX7_restore_9 : decode cX7_restore 9 = .ok (.bipush (-2), 2) := by decide +kernel
theorem dX7_restore_11 : decode cX7_restore 11 = .ok (.ireturn, 1) := by decide +kernel
theorem dX7_restore_12 : decode cX7_restore 12 = .ok (.aload_n 0, 1) := by decide +kernel
theorem dX7_restore_13 : decode cX7_restore 13 = .ok (.getfield 53, 3) := by decide +kernel
theorem dX7_restore_16 : decode cX7_restore 16 = .ok (.iload_n 1, 1) := by decide +kernel
theorem dX7_restore_17 : decode cX7_restore 17 = .ok (.aaload, 1) := by decide +kernel
theorem dX7_restore_18 : decode cX7_restore 18 = .ok (.getfield 223, 3) := by decide +kernel
theorem dX7_restore_21 : decode cX7_restore 21 = .ok (.ifCond .ne 6, 3) := by decide +kernel
theorem dX7_restore_24 : decode cX7_restore 24 = .ok (.bipush (-3), 2) := by decide +kernel
theorem dX7_restore_26 : decode cX7_restore 26 = .ok (.ireturn, 1) := by decide +kernel
theorem dX7_restore_27 : decode cX7_restore 27 = .ok (.aload_n 0, 1) := by decide +kernel
theorem dX7_restore_28 : decode cX7_restore 28 = .ok (.getfield 10, 3) := by decide +kernel
theorem dX7_restore_31 : decode cX7_restore 31 = .ok (.aload_n 0, 1) := by decide +kernel
theorem dX7_restore_32 : decode cX7_restore 32 = .ok (.getfield 53, 3) := by decide +kernel
theorem dX7_restore_35 : decode cX7_restore 35 = .ok (.iload_n 1, 1) := by decide +kernel
theorem dX7_restore_36 : decode cX7_restore 36 = .ok (.aaload, 1) := by decide +kernel
theorem dX7_restore_37 : decode cX7_restore 37 = .ok (.getfield 218, 3) := by decide +kernel
theorem dX7_restore_40 : decode cX7_restore 40 = .ok (.invokevirtual 140, 3) := by decide +kernel
theorem dX7_restore_43 : decode cX7_restore 43 = .ok (.aload_n 0, 1) := by decide +kernel
theorem dX7_restore_44 : decode cX7_restore 44 = .ok (.getfield 19, 3) := by decide +kernel
theorem dX7_restore_47 : decode cX7_restore 47 = .ok (.aload_n 0, 1) := by decide +kernel
theorem dX7_restore_48 : decode cX7_restore 48 = .ok (.getfield 53, 3) := by decide +kernel
theorem dX7_restore_51 : decode cX7_restore 51 = .ok (.iload_n 1, 1) := by decide +kernel
theorem dX7_restore_52 : decode cX7_restore 52 = .ok (.aaload, 1) := by decide +kernel
theorem dX7_restore_53 : decode cX7_restore 53 = .ok (.getfield 219, 3) := by decide +kernel
theorem dX7_restore_56 : decode cX7_restore 56 = .ok (.invokevirtual 220, 3) := by decide +kernel
theorem dX7_restore_59 : decode cX7_restore 59 = .ok (.iconst 1, 1) := by decide +kernel
theorem dX7_restore_60 : decode cX7_restore 60 = .ok (.ireturn, 1) := by decide +kernel
theorem dX7_told_0 : decode cX7_told 0 = .ok (.iload_n 1, 1) := by decide +kernel
theorem dX7_told_1 : decode cX7_told 1 = .ok (.ifCond .ge 6, 3) := by decide +kernel
theorem dX7_told_4 : decode cX7_told 4 = .ok (.bipush (-2), 2) := by decide +kernel
theorem dX7_told_6 : decode cX7_told 6 = .ok (.ireturn, 1) := by decide +kernel
theorem dX7_told_7 : decode cX7_told 7 = .ok (.iload_n 1, 1) := by decide +kernel
theorem dX7_told_8 : decode cX7_told 8 = .ok (.bipush 10, 2) := by decide +kernel
theorem dX7_told_10 : decode cX7_told 10 = .ok (.if_icmp .ge 9, 3) := by decide +kernel
theorem dX7_told_13 : decode cX7_told 13 = .ok (.aload_n 0, 1) := by decide +kernel
theorem dX7_told_14 : decode cX7_told 14 = .ok (.iload_n 1, 1) := by decide +kernel
theorem dX7_told_15 : decode cX7_told 15 = .ok (.invokevirtual 227, 3) := by decide +kernel
theorem dX7_told_18 : decode cX7_told 18 = .ok (.ireturn, 1) := by decide +kernel
theorem dX7_told_19 : decode cX7_told 19 = .ok (.iload_n 1, 1) := by decide +kernel
theorem dX7_told_20 : decode cX7_told 20 = .ok (.bipush 10, 2) := by decide +kernel
theorem dX7_told_22 : decode cX7_told 22 = .ok (.irem, 1) := by decide +kernel
theorem dX7_told_23 : decode cX7_told 23 = .ok (.istore_n 2, 1) := by decide +kernel
theorem dX7_told_24 : decode cX7_told 24 = .ok (.iload_n 1, 1) := by decide +kernel
theorem dX7_told_25 : decode cX7_told 25 = .ok (.bipush 100, 2) := by decide +kernel
theorem dX7_told_27 : decode cX7_told 27 = .ok (.if_icmp .ge 15, 3) := by decide +kernel
theorem dX7_told_30 : decode cX7_told 30 = .ok (.aload_n 0, 1) := by decide +kernel
theorem dX7_told_31 : decode cX7_told 31 = .ok (.iload_n 1, 1) := by decide +kernel
theorem dX7_told_32 : decode cX7_told 32 = .ok (.bipush 10, 2) := by decide +kernel
theorem dX7_told_34 : decode cX7_told 34 = .ok (.idiv, 1) := by decide +kernel
theorem dX7_told_35 : decode cX7_told 35 = .ok (.iconst 1, 1) := by decide +kernel
theorem dX7_told_36 : decode cX7_told 36 = .ok (.isub, 1) := by decide +kernel
theorem dX7_told_37 : decode cX7_told 37 = .ok (.iload_n 2, 1) := by decide +kernel
theorem dX7_told_38 : decode cX7_told 38 = .ok (.invokevirtual 230, 3) := by decide +kernel
theorem dX7_told_41 : decode cX7_told 41 = .ok (.ireturn, 1) := by decide +kernel
theorem dX7_told_42 : decode cX7_told 42 = .ok (.iload_n 1, 1) := by decide +kernel
theorem dX7_told_43 : decode cX7_told 43 = .ok (.sipush 200, 3) := by decide +kernel
theorem dX7_told_46 : decode cX7_told 46 = .ok (.if_icmp .ge 16, 3) := by decide +kernel
theorem dX7_told_49 : decode cX7_told 49 = .ok (.aload_n 0, 1) := by decide +kernel
theorem dX7_told_50 : decode cX7_told 50 = .ok (.iload_n 1, 1) := by decide +kernel
theorem dX7_told_51 : decode cX7_told 51 = .ok (.bipush 10, 2) := by decide +kernel
theorem dX7_told_53 : decode cX7_told 53 = .ok (.idiv, 1) := by decide +kernel
theorem dX7_told_54 : decode cX7_told 54 = .ok (.bipush 10, 2) := by decide +kernel
theorem dX7_told_56 : decode cX7_told 56 = .ok (.isub, 1) := by decide +kernel
theorem dX7_told_57 : decode cX7_told 57 = .ok (.iload_n 2, 1) := by decide +kernel
theorem dX7_told_58 : decode cX7_told 58 = .ok (.invokevirtual 233, 3) := by decide +kernel
theorem dX7_told_61 : decode cX7_told 61 = .ok (.ireturn, 1) := by decide +kernel
theorem dX7_told_62 : decode cX7_told 62 = .ok (.aload_n 0, 1) := by decide +kernel
theorem dX7_told_63 : decode cX7_told 63 = .ok (.iload_n 1, 1) := by decide +kernel
theorem dX7_told_64 : decode cX7_told 64 = .ok (.bipush 10, 2) := by decide +kernel
theorem dX7_told_66 : decode cX7_told 66 = .ok (.idiv, 1) := by decide +kernel
theorem dX7_told_67 : decode cX7_told 67 = .ok (.bipush 20, 2) := by decide +kernel
theorem dX7_told_69 : decode cX7_told 69 = .ok (.isub, 1) := by decide +kernel
theorem dX7_told_70 : decode cX7_told 70 = .ok (.iload_n 2, 1) := by decide +kernel
theorem dX7_told_71 : decode cX7_told 71 = .ok (.invokevirtual 236, 3) := by decide +kernel
theorem dX7_told_74 : decode cX7_told 74 = .ok (.ireturn, 1) := by decide +kernel
theorem dX7_toldOfAll_0 : decode cX7_toldOfAll 0 = .ok (.iload_n 1, 1) := by decide +kernel
theorem dX7_toldOfAll_1 : decode cX7_toldOfAll 1 = .ok (.tableswitch 123 0 8 #[51, 59, 67, 75, 83, 91, 99, 107, 115], 51) := by decide +kernel
theorem dX7_toldOfAll_52 : decode cX7_toldOfAll 52 = .ok (.aload_n 0, 1) := by decide +kernel
theorem dX7_toldOfAll_53 : decode cX7_toldOfAll 53 = .ok (.getfield 26, 3) := by decide +kernel
theorem dX7_toldOfAll_56 : decode cX7_toldOfAll 56 = .ok (.getfield 91, 3) := by decide +kernel
theorem dX7_toldOfAll_59 : decode cX7_toldOfAll 59 = .ok (.ireturn, 1) := by decide +kernel
theorem dX7_toldOfAll_60 : decode cX7_toldOfAll 60 = .ok (.aload_n 0, 1) := by decide +kernel
theorem dX7_toldOfAll_61 : decode cX7_toldOfAll 61 = .ok (.getfield 10, 3) := by decide +kernel
theorem dX7_toldOfAll_64 : decode cX7_toldOfAll 64 = .ok (.getfield 84, 3) := by decide +kernel
theorem dX7_toldOfAll_67 : decode cX7_toldOfAll 67 = .ok (.ireturn, 1) := by decide +kernel
theorem dX7_toldOfAll_68 : decode cX7_toldOfAll 68 = .ok (.aload_n 0, 1) := by decide +kernel
theorem dX7_toldOfAll_69 : decode cX7_toldOfAll 69 = .ok (.getfield 10, 3) := by decide +kernel
theorem dX7_toldOfAll_72 : decode cX7_toldOfAll 72 = .ok (.getfield 88, 3) := by decide +kernel
theorem dX7_toldOfAll_75 : decode cX7_toldOfAll 75 = .ok (.ireturn, 1) := by decide +kernel
theorem dX7_toldOfAll_76 : decode cX7_toldOfAll 76 = .ok (.aload_n 0, 1) := by decide +kernel
theorem dX7_toldOfAll_77 : decode cX7_toldOfAll 77 = .ok (.getfield 10, 3) := by decide +kernel
theorem dX7_toldOfAll_80 : decode cX7_toldOfAll 80 = .ok (.getfield 131, 3) := by decide +kernel
theorem dX7_toldOfAll_83 : decode cX7_toldOfAll 83 = .ok (.ireturn, 1) := by decide +kernel
theorem dX7_toldOfAll_84 : decode cX7_toldOfAll 84 = .ok (.aload_n 0, 1) := by decide +kernel
theorem dX7_toldOfAll_85 : decode cX7_toldOfAll 85 = .ok (.getfield 10, 3) := by decide +kernel
theorem dX7_toldOfAll_88 : decode cX7_toldOfAll 88 = .ok (.getfield 134, 3) := by decide +kernel
theorem dX7_toldOfAll_91 : decode cX7_toldOfAll 91 = .ok (.ireturn, 1) := by decide +kernel
theorem dX7_toldOfAll_92 : decode cX7_toldOfAll 92 = .ok (.aload_n 0, 1) := by decide +kernel
theorem dX7_toldOfAll_93 : decode cX7_toldOfAll 93 = .ok (.getfield 19, 3) := by decide +kernel
theorem dX7_toldOfAll_96 : decode cX7_toldOfAll 96 = .ok (.getfield 191, 3) := by decide +kernel
theorem dX7_toldOfAll_99 : decode cX7_toldOfAll 99 = .ok (.ireturn, 1) := by decide +kernel
theorem dX7_toldOfAll_100 : decode cX7_toldOfAll 100 = .ok (.aload_n 0, 1) := by decide +kernel
theorem dX7_toldOfAll_101 : decode cX7_toldOfAll 101 = .ok (.getfield 10, 3) := by decide +kernel
theorem dX7_toldOfAll_104 : decode cX7_toldOfAll 104 = .ok (.invokevirtual 122, 3) := by decide +kernel
theorem dX7_toldOfAll_107 : decode cX7_toldOfAll 107 = .ok (.ireturn, 1) := by decide +kernel
theorem dX7_toldOfAll_108 : decode cX7_toldOfAll 108 = .ok (.aload_n 0, 1) := by decide +kernel
theorem dX7_toldOfAll_109 : decode cX7_toldOfAll 109 = .ok (.getfield 10, 3) := by decide +kernel
theorem dX7_toldOfAll_112 : decode cX7_toldOfAll 112 = .ok (.invokevirtual 125, 3) := by decide +kernel
theorem dX7_toldOfAll_115 : decode cX7_toldOfAll 115 = .ok (.ireturn, 1) := by decide +kernel
theorem dX7_toldOfAll_116 : decode cX7_toldOfAll 116 = .ok (.aload_n 0, 1) := by decide +kernel
theorem dX7_toldOfAll_117 : decode cX7_toldOfAll 117 = .ok (.getfield 10, 3) := by decide +kernel
theorem dX7_toldOfAll_120 : decode cX7_toldOfAll 120 = .ok (.invokevirtual 128, 3) := by decide +kernel
theorem dX7_toldOfAll_123 : decode cX7_toldOfAll 123 = .ok (.ireturn, 1) := by decide +kernel
theorem dX7_toldOfAll_124 : decode cX7_toldOfAll 124 = .ok (.bipush (-2), 2) := by decide +kernel
theorem dX7_toldOfAll_126 : decode cX7_toldOfAll 126 = .ok (.ireturn, 1) := by decide +kernel
theorem dX7_toldOfOne_0 : decode cX7_toldOfOne 0 = .ok (.iload_n 1, 1) := by decide +kernel
theorem dX7_toldOfOne_1 : decode cX7_toldOfOne 1 = .ok (.invokestatic 58, 3) := by decide +kernel
theorem dX7_toldOfOne_4 : decode cX7_toldOfOne 4 = .ok (.ifCond .eq 20, 3) := by decide +kernel
theorem dX7_toldOfOne_7 : decode cX7_toldOfOne 7 = .ok (.iload_n 2, 1) := by decide +kernel
theorem dX7_toldOfOne_8 : decode cX7_toldOfOne 8 = .ok (.iconst 2, 1) := by decide +kernel
theorem dX7_toldOfOne_9 : decode cX7_toldOfOne 9 = .ok (.if_icmp .gt 15, 3) := by decide +kernel
theorem dX7_toldOfOne_12 : decode cX7_toldOfOne 12 = .ok (.aload_n 0, 1) := by decide +kernel
theorem dX7_toldOfOne_13 : decode cX7_toldOfOne 13 = .ok (.getfield 10, 3) := by decide +kernel
theorem dX7_toldOfOne_16 : decode cX7_toldOfOne 16 = .ok (.iload_n 1, 1) := by decide +kernel
theorem dX7_toldOfOne_17 : decode cX7_toldOfOne 17 = .ok (.iload_n 2, 1) := by decide +kernel
theorem dX7_toldOfOne_18 : decode cX7_toldOfOne 18 = .ok (.invokevirtual 118, 3) := by decide +kernel
theorem dX7_toldOfOne_21 : decode cX7_toldOfOne 21 = .ok (.goto 5, 3) := by decide +kernel
theorem dX7_toldOfOne_24 : decode cX7_toldOfOne 24 = .ok (.bipush (-2), 2) := by decide +kernel
theorem dX7_toldOfOne_26 : decode cX7_toldOfOne 26 = .ok (.ireturn, 1) := by decide +kernel
theorem dX7_toldOfLot_0 : decode cX7_toldOfLot 0 = .ok (.iload_n 1, 1) := by decide +kernel
theorem dX7_toldOfLot_1 : decode cX7_toldOfLot 1 = .ok (.iconst 0, 1) := by decide +kernel
theorem dX7_toldOfLot_2 : decode cX7_toldOfLot 2 = .ok (.bipush 7, 2) := by decide +kernel
theorem dX7_toldOfLot_4 : decode cX7_toldOfLot 4 = .ok (.invokestatic 62, 3) := by decide +kernel
theorem dX7_toldOfLot_7 : decode cX7_toldOfLot 7 = .ok (.ifCond .eq 8, 3) := by decide +kernel
theorem dX7_toldOfLot_10 : decode cX7_toldOfLot 10 = .ok (.iload_n 2, 1) := by decide +kernel
theorem dX7_toldOfLot_11 : decode cX7_toldOfLot 11 = .ok (.iconst 1, 1) := by decide +kernel
theorem dX7_toldOfLot_12 : decode cX7_toldOfLot 12 = .ok (.if_icmp .le 6, 3) := by decide +kernel
theorem dX7_toldOfLot_15 : decode cX7_toldOfLot 15 = .ok (.bipush (-2), 2) := by decide +kernel
theorem dX7_toldOfLot_17 : decode cX7_toldOfLot 17 = .ok (.ireturn, 1) := by decide +kernel
theorem dX7_toldOfLot_18 : decode cX7_toldOfLot 18 = .ok (.iload_n 2, 1) := by decide +kernel
theorem dX7_toldOfLot_19 : decode cX7_toldOfLot 19 = .ok (.ifCond .ne 13, 3) := by decide +kernel
theorem dX7_toldOfLot_22 : decode cX7_toldOfLot 22 = .ok (.aload_n 0, 1) := by decide +kernel
theorem dX7_toldOfLot_23 : decode cX7_toldOfLot 23 = .ok (.getfield 10, 3) := by decide +kernel
theorem dX7_toldOfLot_26 : decode cX7_toldOfLot 26 = .ok (.getfield 77, 3) := by decide +kernel
theorem dX7_toldOfLot_29 : decode cX7_toldOfLot 29 = .ok (.iload_n 1, 1) := by decide +kernel
theorem dX7_toldOfLot_30 : decode cX7_toldOfLot 30 = .ok (.iaload, 1) := by decide +kernel
theorem dX7_toldOfLot_31 : decode cX7_toldOfLot 31 = .ok (.ireturn, 1) := by decide +kernel
theorem dX7_toldOfLot_32 : decode cX7_toldOfLot 32 = .ok (.aload_n 0, 1) := by decide +kernel
theorem dX7_toldOfLot_33 : decode cX7_toldOfLot 33 = .ok (.getfield 10, 3) := by decide +kernel
theorem dX7_toldOfLot_36 : decode cX7_toldOfLot 36 = .ok (.getfield 80, 3) := by decide +kernel
theorem dX7_toldOfLot_39 : decode cX7_toldOfLot 39 = .ok (.iload_n 1, 1) := by decide +kernel
theorem dX7_toldOfLot_40 : decode cX7_toldOfLot 40 = .ok (.iaload, 1) := by decide +kernel
theorem dX7_toldOfLot_41 : decode cX7_toldOfLot 41 = .ok (.iconst (-1), 1) := by decide +kernel
theorem dX7_toldOfLot_42 : decode cX7_toldOfLot 42 = .ok (.if_icmp .ne 8, 3) := by decide +kernel
theorem dX7_toldOfLot_45 : decode cX7_toldOfLot 45 = .ok (.bipush (-6), 2) := by decide +kernel
theorem dX7_toldOfLot_47 : decode cX7_toldOfLot 47 = .ok (.goto 12, 3) := by decide +kernel
theorem dX7_toldOfLot_50 : decode cX7_toldOfLot 50 = .ok (.aload_n 0, 1) := by decide +kernel
theorem dX7_toldOfLot_51 : decode cX7_toldOfLot 51 = .ok (.getfield 10, 3) := by decide +kernel
theorem dX7_toldOfLot_54 : decode cX7_toldOfLot 54 = .ok (.getfield 80, 3) := by decide +kernel
theorem dX7_toldOfLot_57 : decode cX7_toldOfLot 57 = .ok (.iload_n 1, 1) := by decide +kernel
theorem dX7_toldOfLot_58 : decode cX7_toldOfLot 58 = .ok (.iaload, 1) := by decide +kernel
theorem dX7_toldOfLot_59 : decode cX7_toldOfLot 59 = .ok (.ireturn, 1) := by decide +kernel
theorem dX7_toldOfDebt_0 : decode cX7_toldOfDebt 0 = .ok (.iload_n 1, 1) := by decide +kernel
theorem dX7_toldOfDebt_1 : decode cX7_toldOfDebt 1 = .ok (.invokestatic 58, 3) := by decide +kernel
theorem dX7_toldOfDebt_4 : decode cX7_toldOfDebt 4 = .ok (.ifCond .eq 24, 3) := by decide +kernel
theorem dX7_toldOfDebt_7 : decode cX7_toldOfDebt 7 = .ok (.iload_n 2, 1) := by decide +kernel
theorem dX7_toldOfDebt_8 : decode cX7_toldOfDebt 8 = .ok (.invokestatic 58, 3) := by decide +kernel
theorem dX7_toldOfDebt_11 : decode cX7_toldOfDebt 11 = .ok (.ifCond .eq 17, 3) := by decide +kernel
theorem dX7_toldOfDebt_14 : decode cX7_toldOfDebt 14 = .ok (.aload_n 0, 1) := by decide +kernel
theorem dX7_toldOfDebt_15 : decode cX7_toldOfDebt 15 = .ok (.getfield 10, 3) := by decide +kernel
theorem dX7_toldOfDebt_18 : decode cX7_toldOfDebt 18 = .ok (.getfield 73, 3) := by decide +kernel
theorem dX7_toldOfDebt_21 : decode cX7_toldOfDebt 21 = .ok (.iload_n 1, 1) := by decide +kernel
theorem dX7_toldOfDebt_22 : decode cX7_toldOfDebt 22 = .ok (.aaload, 1) := by decide +kernel
theorem dX7_toldOfDebt_23 : decode cX7_toldOfDebt 23 = .ok (.iload_n 2, 1) := by decide +kernel
theorem dX7_toldOfDebt_24 : decode cX7_toldOfDebt 24 = .ok (.iaload, 1) := by decide +kernel
theorem dX7_toldOfDebt_25 : decode cX7_toldOfDebt 25 = .ok (.goto 5, 3) := by decide +kernel
theorem dX7_toldOfDebt_28 : decode cX7_toldOfDebt 28 = .ok (.bipush (-2), 2) := by decide +kernel
theorem dX7_toldOfDebt_30 : decode cX7_toldOfDebt 30 = .ok (.ireturn, 1) := by decide +kernel
theorem dX7_within_0 : decode cX7_within 0 = .ok (.iload_n 0, 1) := by decide +kernel
theorem dX7_within_1 : decode cX7_within 1 = .ok (.iload_n 1, 1) := by decide +kernel
theorem dX7_within_2 : decode cX7_within 2 = .ok (.if_icmp .lt 12, 3) := by decide +kernel
theorem dX7_within_5 : decode cX7_within 5 = .ok (.iload_n 0, 1) := by decide +kernel
theorem dX7_within_6 : decode cX7_within 6 = .ok (.iload_n 2, 1) := by decide +kernel
theorem dX7_within_7 : decode cX7_within 7 = .ok (.if_icmp .gt 7, 3) := by decide +kernel
theorem dX7_within_10 : decode cX7_within 10 = .ok (.iconst 1, 1) := by decide +kernel
theorem dX7_within_11 : decode cX7_within 11 = .ok (.goto 4, 3) := by decide +kernel
theorem dX7_within_14 : decode cX7_within 14 = .ok (.iconst 0, 1) := by decide +kernel
theorem dX7_within_15 : decode cX7_within 15 = .ok (.ireturn, 1) := by decide +kernel
theorem dX7_isOne_0 : decode cX7_isOne 0 = .ok (.iload_n 0, 1) := by decide +kernel
theorem dX7_isOne_1 : decode cX7_isOne 1 = .ok (.iconst 0, 1) := by decide +kernel
theorem dX7_isOne_2 : decode cX7_isOne 2 = .ok (.iconst 5, 1) := by decide +kernel
theorem dX7_isOne_3 : decode cX7_isOne 3 = .ok (.invokestatic 62, 3) := by decide +kernel
theorem dX7_isOne_6 : decode cX7_isOne 6 = .ok (.ireturn, 1) := by decide +kernel
theorem dX7_rateOf_0 : decode cX7_rateOf 0 = .ok (.iload_n 1, 1) := by decide +kernel
theorem dX7_rateOf_1 : decode cX7_rateOf 1 = .ok (.ifCond .gt 8, 3) := by decide +kernel
theorem dX7_rateOf_4 : decode cX7_rateOf 4 = .ok (.bipush 100, 2) := by decide +kernel
theorem dX7_rateOf_6 : decode cX7_rateOf 6 = .ok (.goto 14, 3) := by decide +kernel
theorem dX7_rateOf_9 : decode cX7_rateOf 9 = .ok (.bipush 100, 2) := by decide +kernel
theorem dX7_rateOf_11 : decode cX7_rateOf 11 = .ok (.bipush 100, 2) := by decide +kernel
theorem dX7_rateOf_13 : decode cX7_rateOf 13 = .ok (.iload_n 0, 1) := by decide +kernel
theorem dX7_rateOf_14 : decode cX7_rateOf 14 = .ok (.imul, 1) := by decide +kernel
theorem dX7_rateOf_15 : decode cX7_rateOf 15 = .ok (.iload_n 1, 1) := by decide +kernel
theorem dX7_rateOf_16 : decode cX7_rateOf 16 = .ok (.idiv, 1) := by decide +kernel
theorem dX7_rateOf_17 : decode cX7_rateOf 17 = .ok (.invokestatic 157, 3) := by decide +kernel
theorem dX7_rateOf_20 : decode cX7_rateOf 20 = .ok (.ireturn, 1) := by decide +kernel
theorem dX7_drawnNumber_0 : decode cX7_drawnNumber 0 = .ok (.iload_n 0, 1) := by decide +kernel
theorem dX7_drawnNumber_1 : decode cX7_drawnNumber 1 = .ok (.iconst 2, 1) := by decide +kernel
theorem dX7_drawnNumber_2 : decode cX7_drawnNumber 2 = .ok (.if_icmp .eq 8, 3) := by decide +kernel
theorem dX7_drawnNumber_5 : decode cX7_drawnNumber 5 = .ok (.iload_n 0, 1) := by decide +kernel
theorem dX7_drawnNumber_6 : decode cX7_drawnNumber 6 = .ok (.iconst 3, 1) := by decide +kernel
theorem dX7_drawnNumber_7 : decode cX7_drawnNumber 7 = .ok (.if_icmp .ne 8, 3) := by decide +kernel
theorem dX7_drawnNumber_10 : decode cX7_drawnNumber 10 = .ok (.iload_n 1, 1) := by decide +kernel
theorem dX7_drawnNumber_11 : decode cX7_drawnNumber 11 = .ok (.bipush 8, 2) := by decide +kernel
theorem dX7_drawnNumber_13 : decode cX7_drawnNumber 13 = .ok (.irem, 1) := by decide +kernel
theorem dX7_drawnNumber_14 : decode cX7_drawnNumber 14 = .ok (.ireturn, 1) := by decide +kernel
theorem dX7_drawnNumber_15 : decode cX7_drawnNumber 15 = .ok (.iload_n 0, 1) := by decide +kernel
theorem dX7_drawnNumber_16 : decode cX7_drawnNumber 16 = .ok (.iconst 5, 1) := by decide +kernel
theorem dX7_drawnNumber_17 : decode cX7_drawnNumber 17 = .ok (.if_icmp .ne 10, 3) := by decide +kernel
theorem dX7_drawnNumber_20 : decode cX7_drawnNumber 20 = .ok (.iload_n 1, 1) := by decide +kernel
theorem dX7_drawnNumber_21 : decode cX7_drawnNumber 21 = .ok (.bipush 6, 2) := by decide +kernel
theorem dX7_drawnNumber_23 : decode cX7_drawnNumber 23 = .ok (.irem, 1) := by decide +kernel
theorem dX7_drawnNumber_24 : decode cX7_drawnNumber 24 = .ok (.goto 9, 3) := by decide +kernel
theorem dX7_drawnNumber_27 : decode cX7_drawnNumber 27 = .ok (.iconst 1, 1) := by decide +kernel
theorem dX7_drawnNumber_28 : decode cX7_drawnNumber 28 = .ok (.iload_n 1, 1) := by decide +kernel
theorem dX7_drawnNumber_29 : decode cX7_drawnNumber 29 = .ok (.bipush 9, 2) := by decide +kernel
theorem dX7_drawnNumber_31 : decode cX7_drawnNumber 31 = .ok (.irem, 1) := by decide +kernel
theorem dX7_drawnNumber_32 : decode cX7_drawnNumber 32 = .ok (.iadd, 1) := by decide +kernel
theorem dX7_drawnNumber_33 : decode cX7_drawnNumber 33 = .ok (.ireturn, 1) := by decide +kernel
theorem dX7_choices_0 : decode cX7_choices 0 = .ok (.iload_n 1, 1) := by decide +kernel
theorem dX7_choices_1 : decode cX7_choices 1 = .ok (.ifCond .lt 8, 3) := by decide +kernel
theorem dX7_choices_4 : decode cX7_choices 4 = .ok (.iload_n 1, 1) := by decide +kernel
theorem dX7_choices_5 : decode cX7_choices 5 = .ok (.iload_n 0, 1) := by decide +kernel
theorem dX7_choices_6 : decode cX7_choices 6 = .ok (.if_icmp .le 5, 3) := by decide +kernel
theorem dX7_choices_9 : decode cX7_choices 9 = .ok (.lconst 0, 1) := by decide +kernel
theorem dX7_choices_10 : decode cX7_choices 10 = .ok (.lreturn, 1) := by decide +kernel
theorem dX7_choices_11 : decode cX7_choices 11 = .ok (.lconst 1, 1) := by decide +kernel
theorem dX7_choices_12 : decode cX7_choices 12 = .ok (.lstore_n 2, 1) := by decide +kernel
theorem dX7_choices_13 : decode cX7_choices 13 = .ok (.iconst 1, 1) := by decide +kernel
theorem dX7_choices_14 : decode cX7_choices 14 = .ok (.istore 4, 2) := by decide +kernel
theorem dX7_choices_16 : decode cX7_choices 16 = .ok (.iload 4, 2) := by decide +kernel
theorem dX7_choices_18 : decode cX7_choices 18 = .ok (.iload_n 1, 1) := by decide +kernel
theorem dX7_choices_19 : decode cX7_choices 19 = .ok (.if_icmp .gt 23, 3) := by decide +kernel
theorem dX7_choices_22 : decode cX7_choices 22 = .ok (.lload_n 2, 1) := by decide +kernel
theorem dX7_choices_23 : decode cX7_choices 23 = .ok (.iload_n 0, 1) := by decide +kernel
theorem dX7_choices_24 : decode cX7_choices 24 = .ok (.iload_n 1, 1) := by decide +kernel
theorem dX7_choices_25 : decode cX7_choices 25 = .ok (.isub, 1) := by decide +kernel
theorem dX7_choices_26 : decode cX7_choices 26 = .ok (.iload 4, 2) := by decide +kernel
theorem dX7_choices_28 : decode cX7_choices 28 = .ok (.iadd, 1) := by decide +kernel
theorem dX7_choices_29 : decode cX7_choices 29 = .ok (.i2l, 1) := by decide +kernel
theorem dX7_choices_30 : decode cX7_choices 30 = .ok (.lmul, 1) := by decide +kernel
theorem dX7_choices_31 : decode cX7_choices 31 = .ok (.iload 4, 2) := by decide +kernel
theorem dX7_choices_33 : decode cX7_choices 33 = .ok (.i2l, 1) := by decide +kernel
theorem dX7_choices_34 : decode cX7_choices 34 = .ok (.ldiv, 1) := by decide +kernel
theorem dX7_choices_35 : decode cX7_choices 35 = .ok (.lstore_n 2, 1) := by decide +kernel
theorem dX7_choices_36 : decode cX7_choices 36 = .ok (.iinc 4 1, 3) := by decide +kernel
theorem dX7_choices_39 : decode cX7_choices 39 = .ok (.goto (-23), 3) := by decide +kernel
theorem dX7_choices_42 : decode cX7_choices 42 = .ok (.lload_n 2, 1) := by decide +kernel
theorem dX7_choices_43 : decode cX7_choices 43 = .ok (.lreturn, 1) := by decide +kernel
theorem dX7_lowest_0 : decode cX7_lowest 0 = .ok (.lload_n 2, 1) := by decide +kernel
theorem dX7_lowest_1 : decode cX7_lowest 1 = .ok (.lstore 5, 2) := by decide +kernel
theorem dX7_lowest_3 : decode cX7_lowest 3 = .ok (.lload_n 0, 1) := by decide +kernel
theorem dX7_lowest_4 : decode cX7_lowest 4 = .ok (.lstore 7, 2) := by decide +kernel
theorem dX7_lowest_6 : decode cX7_lowest 6 = .ok (.iconst 0, 1) := by decide +kernel
theorem dX7_lowest_7 : decode cX7_lowest 7 = .ok (.istore 9, 2) := by decide +kernel
theorem dX7_lowest_9 : decode cX7_lowest 9 = .ok (.iload 9, 2) := by decide +kernel
theorem dX7_lowest_11 : decode cX7_lowest 11 = .ok (.sipush 200, 3) := by decide +kernel
theorem dX7_lowest_14 : decode cX7_lowest 14 = .ok (.if_icmp .ge 31, 3) := by decide +kernel
theorem dX7_lowest_17 : decode cX7_lowest 17 = .ok (.lload 7, 2) := by decide +kernel
theorem dX7_lowest_19 : decode cX7_lowest 19 = .ok (.lconst 0, 1) := by decide +kernel
theorem dX7_lowest_20 : decode cX7_lowest 20 = .ok (.lcmp, 1) := by decide +kernel
theorem dX7_lowest_21 : decode cX7_lowest 21 = .ok (.ifCond .eq 24, 3) := by decide +kernel
theorem dX7_lowest_24 : decode cX7_lowest 24 = .ok (.lload 5, 2) := by decide +kernel
theorem dX7_lowest_26 : decode cX7_lowest 26 = .ok (.lload 7, 2) := by decide +kernel
theorem dX7_lowest_28 : decode cX7_lowest 28 = .ok (.lrem, 1) := by decide +kernel
theorem dX7_lowest_29 : decode cX7_lowest 29 = .ok (.lstore 10, 2) := by decide +kernel
theorem dX7_lowest_31 : decode cX7_lowest 31 = .ok (.lload 7, 2) := by decide +kernel
theorem dX7_lowest_33 : decode cX7_lowest 33 = .ok (.lstore 5, 2) := by decide +kernel
theorem dX7_lowest_35 : decode cX7_lowest 35 = .ok (.lload 10, 2) := by decide +kernel
theorem dX7_lowest_37 : decode cX7_lowest 37 = .ok (.lstore 7, 2) := by decide +kernel
theorem dX7_lowest_39 : decode cX7_lowest 39 = .ok (.iinc 9 1, 3) := by decide +kernel
theorem dX7_lowest_42 : decode cX7_lowest 42 = .ok (.goto (-33), 3) := by decide +kernel
theorem dX7_lowest_45 : decode cX7_lowest 45 = .ok (.lload 5, 2) := by decide +kernel
theorem dX7_lowest_47 : decode cX7_lowest 47 = .ok (.lconst 0, 1) := by decide +kernel
theorem dX7_lowest_48 : decode cX7_lowest 48 = .ok (.lcmp, 1) := by decide +kernel
theorem dX7_lowest_49 : decode cX7_lowest 49 = .ok (.ifCond .ne 5, 3) := by decide +kernel
theorem dX7_lowest_52 : decode cX7_lowest 52 = .ok (.lconst 0, 1) := by decide +kernel
theorem dX7_lowest_53 : decode cX7_lowest 53 = .ok (.lreturn, 1) := by decide +kernel
theorem dX7_lowest_54 : decode cX7_lowest 54 = .ok (.iload 4, 2) := by decide +kernel
theorem dX7_lowest_56 : decode cX7_lowest 56 = .ok (.ifCond .ne 7, 3) := by decide +kernel
theorem dX7_lowest_59 : decode cX7_lowest 59 = .ok (.lload_n 0, 1) := by decide +kernel
theorem dX7_lowest_60 : decode cX7_lowest 60 = .ok (.goto 4, 3) := by decide +kernel
theorem dX7_lowest_63 : decode cX7_lowest 63 = .ok (.lload_n 2, 1) := by decide +kernel
theorem dX7_lowest_64 : decode cX7_lowest 64 = .ok (.lload 5, 2) := by decide +kernel
theorem dX7_lowest_66 : decode cX7_lowest 66 = .ok (.ldiv, 1) := by decide +kernel
theorem dX7_lowest_67 : decode cX7_lowest 67 = .ok (.lreturn, 1) := by decide +kernel
theorem dJ6_bitCount_0f7a4_0 : decode cJ6_bitCount_0f7a4 0 = .ok (.iload_n 0, 1) := by decide +kernel
theorem dJ6_bitCount_0f7a4_1 : decode cJ6_bitCount_0f7a4 1 = .ok (.iload_n 0, 1) := by decide +kernel
theorem dJ6_bitCount_0f7a4_2 : decode cJ6_bitCount_0f7a4 2 = .ok (.iconst 1, 1) := by decide +kernel
theorem dJ6_bitCount_0f7a4_3 : decode cJ6_bitCount_0f7a4 3 = .ok (.iushr, 1) := by decide +kernel
theorem dJ6_bitCount_0f7a4_4 : decode cJ6_bitCount_0f7a4 4 = .ok (.ldc_w 265, 3) := by decide +kernel
theorem dJ6_bitCount_0f7a4_7 : decode cJ6_bitCount_0f7a4 7 = .ok (.iand, 1) := by decide +kernel
theorem dJ6_bitCount_0f7a4_8 : decode cJ6_bitCount_0f7a4 8 = .ok (.isub, 1) := by decide +kernel
theorem dJ6_bitCount_0f7a4_9 : decode cJ6_bitCount_0f7a4 9 = .ok (.istore_n 0, 1) := by decide +kernel
theorem dJ6_bitCount_0f7a4_10 : decode cJ6_bitCount_0f7a4 10 = .ok (.iload_n 0, 1) := by decide +kernel
theorem dJ6_bitCount_0f7a4_11 : decode cJ6_bitCount_0f7a4 11 = .ok (.ldc_w 266, 3) := by decide +kernel
theorem dJ6_bitCount_0f7a4_14 : decode cJ6_bitCount_0f7a4 14 = .ok (.iand, 1) := by decide +kernel
theorem dJ6_bitCount_0f7a4_15 : decode cJ6_bitCount_0f7a4 15 = .ok (.iload_n 0, 1) := by decide +kernel
theorem dJ6_bitCount_0f7a4_16 : decode cJ6_bitCount_0f7a4 16 = .ok (.iconst 2, 1) := by decide +kernel
theorem dJ6_bitCount_0f7a4_17 : decode cJ6_bitCount_0f7a4 17 = .ok (.iushr, 1) := by decide +kernel
theorem dJ6_bitCount_0f7a4_18 : decode cJ6_bitCount_0f7a4 18 = .ok (.ldc_w 266, 3) := by decide +kernel
theorem dJ6_bitCount_0f7a4_21 : decode cJ6_bitCount_0f7a4 21 = .ok (.iand, 1) := by decide +kernel
theorem dJ6_bitCount_0f7a4_22 : decode cJ6_bitCount_0f7a4 22 = .ok (.iadd, 1) := by decide +kernel
theorem dJ6_bitCount_0f7a4_23 : decode cJ6_bitCount_0f7a4 23 = .ok (.istore_n 0, 1) := by decide +kernel
theorem dJ6_bitCount_0f7a4_24 : decode cJ6_bitCount_0f7a4 24 = .ok (.iload_n 0, 1) := by decide +kernel
theorem dJ6_bitCount_0f7a4_25 : decode cJ6_bitCount_0f7a4 25 = .ok (.iload_n 0, 1) := by decide +kernel
theorem dJ6_bitCount_0f7a4_26 : decode cJ6_bitCount_0f7a4 26 = .ok (.iconst 4, 1) := by decide +kernel
theorem dJ6_bitCount_0f7a4_27 : decode cJ6_bitCount_0f7a4 27 = .ok (.iushr, 1) := by decide +kernel
theorem dJ6_bitCount_0f7a4_28 : decode cJ6_bitCount_0f7a4 28 = .ok (.iadd, 1) := by decide +kernel
theorem dJ6_bitCount_0f7a4_29 : decode cJ6_bitCount_0f7a4 29 = .ok (.ldc_w 267, 3) := by decide +kernel
theorem dJ6_bitCount_0f7a4_32 : decode cJ6_bitCount_0f7a4 32 = .ok (.iand, 1) := by decide +kernel
theorem dJ6_bitCount_0f7a4_33 : decode cJ6_bitCount_0f7a4 33 = .ok (.istore_n 0, 1) := by decide +kernel
theorem dJ6_bitCount_0f7a4_34 : decode cJ6_bitCount_0f7a4 34 = .ok (.iload_n 0, 1) := by decide +kernel
theorem dJ6_bitCount_0f7a4_35 : decode cJ6_bitCount_0f7a4 35 = .ok (.iload_n 0, 1) := by decide +kernel
theorem dJ6_bitCount_0f7a4_36 : decode cJ6_bitCount_0f7a4 36 = .ok (.bipush 8, 2) := by decide +kernel
theorem dJ6_bitCount_0f7a4_38 : decode cJ6_bitCount_0f7a4 38 = .ok (.iushr, 1) := by decide +kernel
theorem dJ6_bitCount_0f7a4_39 : decode cJ6_bitCount_0f7a4 39 = .ok (.iadd, 1) := by decide +kernel
theorem dJ6_bitCount_0f7a4_40 : decode cJ6_bitCount_0f7a4 40 = .ok (.istore_n 0, 1) := by decide +kernel
theorem dJ6_bitCount_0f7a4_41 : decode cJ6_bitCount_0f7a4 41 = .ok (.iload_n 0, 1) := by decide +kernel
theorem dJ6_bitCount_0f7a4_42 : decode cJ6_bitCount_0f7a4 42 = .ok (.iload_n 0, 1) := by decide +kernel
theorem dJ6_bitCount_0f7a4_43 : decode cJ6_bitCount_0f7a4 43 = .ok (.bipush 16, 2) := by decide +kernel
theorem dJ6_bitCount_0f7a4_45 : decode cJ6_bitCount_0f7a4 45 = .ok (.iushr, 1) := by decide +kernel
theorem dJ6_bitCount_0f7a4_46 : decode cJ6_bitCount_0f7a4 46 = .ok (.iadd, 1) := by decide +kernel
theorem dJ6_bitCount_0f7a4_47 : decode cJ6_bitCount_0f7a4 47 = .ok (.istore_n 0, 1) := by decide +kernel
theorem dJ6_bitCount_0f7a4_48 : decode cJ6_bitCount_0f7a4 48 = .ok (.iload_n 0, 1) := by decide +kernel
theorem dJ6_bitCount_0f7a4_49 : decode cJ6_bitCount_0f7a4 49 = .ok (.bipush 63, 2) := by decide +kernel
theorem dJ6_bitCount_0f7a4_51 : decode cJ6_bitCount_0f7a4 51 = .ok (.iand, 1) := by decide +kernel
theorem dJ6_bitCount_0f7a4_52 : decode cJ6_bitCount_0f7a4 52 = .ok (.ireturn, 1) := by decide +kernel
theorem dJ9_max_7cf53_0 : decode cJ9_max_7cf53 0 = .ok (.iload_n 0, 1) := by decide +kernel
theorem dJ9_max_7cf53_1 : decode cJ9_max_7cf53 1 = .ok (.iload_n 1, 1) := by decide +kernel
theorem dJ9_max_7cf53_2 : decode cJ9_max_7cf53 2 = .ok (.if_icmp .lt 7, 3) := by decide +kernel
theorem dJ9_max_7cf53_5 : decode cJ9_max_7cf53 5 = .ok (.iload_n 0, 1) := by decide +kernel
theorem dJ9_max_7cf53_6 : decode cJ9_max_7cf53 6 = .ok (.goto 4, 3) := by decide +kernel
theorem dJ9_max_7cf53_9 : decode cJ9_max_7cf53 9 = .ok (.iload_n 1, 1) := by decide +kernel
theorem dJ9_max_7cf53_10 : decode cJ9_max_7cf53 10 = .ok (.ireturn, 1) := by decide +kernel
theorem dJ9_max_f86c9_0 : decode cJ9_max_f86c9 0 = .ok (.lload_n 0, 1) := by decide +kernel
theorem dJ9_max_f86c9_1 : decode cJ9_max_f86c9 1 = .ok (.lload_n 2, 1) := by decide +kernel
theorem dJ9_max_f86c9_2 : decode cJ9_max_f86c9 2 = .ok (.lcmp, 1) := by decide +kernel
theorem dJ9_max_f86c9_3 : decode cJ9_max_f86c9 3 = .ok (.ifCond .lt 7, 3) := by decide +kernel
theorem dJ9_max_f86c9_6 : decode cJ9_max_f86c9 6 = .ok (.lload_n 0, 1) := by decide +kernel
theorem dJ9_max_f86c9_7 : decode cJ9_max_f86c9 7 = .ok (.goto 4, 3) := by decide +kernel
theorem dJ9_max_f86c9_10 : decode cJ9_max_f86c9 10 = .ok (.lload_n 2, 1) := by decide +kernel
theorem dJ9_max_f86c9_11 : decode cJ9_max_f86c9 11 = .ok (.lreturn, 1) := by decide +kernel
theorem dJ9_min_7cf53_0 : decode cJ9_min_7cf53 0 = .ok (.iload_n 0, 1) := by decide +kernel
theorem dJ9_min_7cf53_1 : decode cJ9_min_7cf53 1 = .ok (.iload_n 1, 1) := by decide +kernel
theorem dJ9_min_7cf53_2 : decode cJ9_min_7cf53 2 = .ok (.if_icmp .gt 7, 3) := by decide +kernel
theorem dJ9_min_7cf53_5 : decode cJ9_min_7cf53 5 = .ok (.iload_n 0, 1) := by decide +kernel
theorem dJ9_min_7cf53_6 : decode cJ9_min_7cf53 6 = .ok (.goto 4, 3) := by decide +kernel
theorem dJ9_min_7cf53_9 : decode cJ9_min_7cf53 9 = .ok (.iload_n 1, 1) := by decide +kernel
theorem dJ9_min_7cf53_10 : decode cJ9_min_7cf53 10 = .ok (.ireturn, 1) := by decide +kernel
end
section
theorem dX8_init_0 : decode cX8_init 0 = .ok (.aload_n 0, 1) := by decide +kernel
theorem dX8_init_1 : decode cX8_init 1 = .ok (.invokespecial 1, 3) := by decide +kernel
theorem dX8_init_4 : decode cX8_init 4 = .ok (.aload_n 0, 1) := by decide +kernel
theorem dX8_init_5 : decode cX8_init 5 = .ok (.bipush 6, 2) := by decide +kernel
theorem dX8_init_7 : decode cX8_init 7 = .ok (.newarray .int, 2) := by decide +kernel
theorem dX8_init_9 : decode cX8_init 9 = .ok (.putfield 7, 3) := by decide +kernel
theorem dX8_init_12 : decode cX8_init 12 = .ok (.aload_n 0, 1) := by decide +kernel
theorem dX8_init_13 : decode cX8_init 13 = .ok (.bipush 6, 2) := by decide +kernel
theorem dX8_init_15 : decode cX8_init 15 = .ok (.newarray .int, 2) := by decide +kernel
theorem dX8_init_17 : decode cX8_init 17 = .ok (.putfield 13, 3) := by decide +kernel
theorem dX8_init_20 : decode cX8_init 20 = .ok (.aload_n 0, 1) := by decide +kernel
theorem dX8_init_21 : decode cX8_init 21 = .ok (.bipush 36, 2) := by decide +kernel
theorem dX8_init_23 : decode cX8_init 23 = .ok (.newarray .int, 2) := by decide +kernel
theorem dX8_init_25 : decode cX8_init 25 = .ok (.putfield 16, 3) := by decide +kernel
theorem dX8_init_28 : decode cX8_init 28 = .ok (.aload_n 0, 1) := by decide +kernel
theorem dX8_init_29 : decode cX8_init 29 = .ok (.bipush 8, 2) := by decide +kernel
theorem dX8_init_31 : decode cX8_init 31 = .ok (.newarray .int, 2) := by decide +kernel
theorem dX8_init_33 : decode cX8_init 33 = .ok (.putfield 19, 3) := by decide +kernel
theorem dX8_init_36 : decode cX8_init 36 = .ok (.aload_n 0, 1) := by decide +kernel
theorem dX8_init_37 : decode cX8_init 37 = .ok (.bipush 8, 2) := by decide +kernel
theorem dX8_init_39 : decode cX8_init 39 = .ok (.newarray .int, 2) := by decide +kernel
theorem dX8_init_41 : decode cX8_init 41 = .ok (.putfield 22, 3) := by decide +kernel
theorem dX8_init_44 : decode cX8_init 44 = .ok (.aload_n 0, 1) := by decide +kernel
theorem dX8_init_45 : decode cX8_init 45 = .ok (.bipush 8, 2) := by decide +kernel
theorem dX8_init_47 : decode cX8_init 47 = .ok (.newarray .int, 2) := by decide +kernel
theorem dX8_init_49 : decode cX8_init 49 = .ok (.putfield 25, 3) := by decide +kernel
theorem dX8_init_52 : decode cX8_init 52 = .ok (.aload_n 0, 1) := by decide +kernel
theorem dX8_init_53 : decode cX8_init 53 = .ok (.bipush 8, 2) := by decide +kernel
theorem dX8_init_55 : decode cX8_init 55 = .ok (.newarray .int, 2) := by decide +kernel
theorem dX8_init_57 : decode cX8_init 57 = .ok (.putfield 28, 3) := by decide +kernel
theorem dX8_init_60 : decode cX8_init 60 = .ok (.aload_n 0, 1) := by decide +kernel
theorem dX8_init_61 : decode cX8_init 61 = .ok (.bipush 8, 2) := by decide +kernel
theorem dX8_init_63 : decode cX8_init 63 = .ok (.newarray .int, 2) := by decide +kernel
theorem dX8_init_65 : decode cX8_init 65 = .ok (.putfield 31, 3) := by decide +kernel
theorem dX8_init_68 : decode cX8_init 68 = .ok (.aload_n 0, 1) := by decide +kernel
theorem dX8_init_69 : decode cX8_init 69 = .ok (.bipush 60, 2) := by decide +kernel
theorem dX8_init_71 : decode cX8_init 71 = .ok (.newarray .int, 2) := by decide +kernel
theorem dX8_init_73 : decode cX8_init 73 = .ok (.putfield 34, 3) := by decide +kernel
theorem dX8_init_76 : decode cX8_init 76 = .ok (.aload_n 0, 1) := by decide +kernel
theorem dX8_init_77 : decode cX8_init 77 = .ok (.bipush 60, 2) := by decide +kernel
theorem dX8_init_79 : decode cX8_init 79 = .ok (.newarray .int, 2) := by decide +kernel
theorem dX8_init_81 : decode cX8_init 81 = .ok (.putfield 37, 3) := by decide +kernel
theorem dX8_init_84 : decode cX8_init 84 = .ok (.aload_n 0, 1) := by decide +kernel
theorem dX8_init_85 : decode cX8_init 85 = .ok (.bipush 60, 2) := by decide +kernel
theorem dX8_init_87 : decode cX8_init 87 = .ok (.newarray .int, 2) := by decide +kernel
theorem dX8_init_89 : decode cX8_init 89 = .ok (.putfield 40, 3) := by decide +kernel
theorem dX8_init_92 : decode cX8_init 92 = .ok (.aload_n 0, 1) := by decide +kernel
theorem dX8_init_93 : decode cX8_init 93 = .ok (.bipush 60, 2) := by decide +kernel
theorem dX8_init_95 : decode cX8_init 95 = .ok (.newarray .int, 2) := by decide +kernel
theorem dX8_init_97 : decode cX8_init 97 = .ok (.putfield 43, 3) := by decide +kernel
theorem dX8_init_100 : decode cX8_init 100 = .ok (.aload_n 0, 1) := by decide +kernel
theorem dX8_init_101 : decode cX8_init 101 = .ok (.bipush 60, 2) := by decide +kernel
theorem dX8_init_103 : decode cX8_init 103 = .ok (.newarray .int, 2) := by decide +kernel
theorem dX8_init_105 : decode cX8_init 105 = .ok (.putfield 46, 3) := by decide +kernel
theorem dX8_init_108 : decode cX8_init 108 = .ok (.aload_n 0, 1) := by decide +kernel
theorem dX8_init_109 : decode cX8_init 109 = .ok (.bipush 60, 2) := by decide +kernel
theorem dX8_init_111 : decode cX8_init 111 = .ok (.newarray .int, 2) := by decide +kernel
theorem dX8_init_113 : decode cX8_init 113 = .ok (.putfield 49, 3) := by decide +kernel
theorem dX8_init_116 : decode cX8_init 116 = .ok (.aload_n 0, 1) := by decide +kernel
theorem dX8_init_117 : decode cX8_init 117 = .ok (.bipush 6, 2) := by decide +kernel
theorem dX8_init_119 : decode cX8_init 119 = .ok (.newarray .int, 2) := by decide +kernel
theorem dX8_init_121 : decode cX8_init 121 = .ok (.putfield 52, 3) := by decide +kernel
theorem dX8_init_124 : decode cX8_init 124 = .ok (.aload_n 0, 1) := by decide +kernel
theorem dX8_init_125 : decode cX8_init 125 = .ok (.bipush 64, 2) := by decide +kernel
theorem dX8_init_127 : decode cX8_init 127 = .ok (.newarray .int, 2) := by decide +kernel
theorem dX8_init_129 : decode cX8_init 129 = .ok (.putfield 55, 3) := by decide +kernel
theorem dX8_init_132 : decode cX8_init 132 = .ok (.aload_n 0, 1) := by decide +kernel
theorem dX8_init_133 : decode cX8_init 133 = .ok (.bipush 9, 2) := by decide +kernel
theorem dX8_init_135 : decode cX8_init 135 = .ok (.newarray .int, 2) := by decide +kernel
theorem dX8_init_137 : decode cX8_init 137 = .ok (.putfield 58, 3) := by decide +kernel
theorem dX8_init_140 : decode cX8_init 140 = .ok (.aload_n 0, 1) := by decide +kernel
theorem dX8_init_141 : decode cX8_init 141 = .ok (.bipush 70, 2) := by decide +kernel
theorem dX8_init_143 : decode cX8_init 143 = .ok (.newarray .long, 2) := by decide +kernel
theorem dX8_init_145 : decode cX8_init 145 = .ok (.putfield 61, 3) := by decide +kernel
theorem dX8_init_148 : decode cX8_init 148 = .ok (.aload_n 0, 1) := by decide +kernel
theorem dX8_init_149 : decode cX8_init 149 = .ok (.bipush 70, 2) := by decide +kernel
theorem dX8_init_151 : decode cX8_init 151 = .ok (.newarray .long, 2) := by decide +kernel
theorem dX8_init_153 : decode cX8_init 153 = .ok (.putfield 65, 3) := by decide +kernel
theorem dX8_init_156 : decode cX8_init 156 = .ok (.aload_n 0, 1) := by decide +kernel
theorem dX8_init_157 : decode cX8_init 157 = .ok (.bipush 31, 2) := by decide +kernel
theorem dX8_init_159 : decode cX8_init 159 = .ok (.newarray .long, 2) := by decide +kernel
theorem dX8_init_161 : decode cX8_init 161 = .ok (.putfield 68, 3) := by decide +kernel
theorem dX8_init_164 : decode cX8_init 164 = .ok (.aload_n 0, 1) := by decide +kernel
theorem dX8_init_165 : decode cX8_init 165 = .ok (.sipush 200, 3) := by decide +kernel
theorem dX8_init_168 : decode cX8_init 168 = .ok (.newarray .int, 2) := by decide +kernel
theorem dX8_init_170 : decode cX8_init 170 = .ok (.putfield 71, 3) := by decide +kernel
theorem dX8_init_173 : decode cX8_init 173 = .ok (.aload_n 0, 1) := by decide +kernel
theorem dX8_init_174 : decode cX8_init 174 = .ok (.iconst 2, 1) := by decide +kernel
theorem dX8_init_175 : decode cX8_init 175 = .ok (.newarray .boolean, 2) := by decide +kernel
theorem dX8_init_177 : decode cX8_init 177 = .ok (.putfield 74, 3) := by decide +kernel
theorem dX8_init_180 : decode cX8_init 180 = .ok (.iconst 0, 1) := by decide +kernel
theorem dX8_init_181 : decode cX8_init 181 = .ok (.istore_n 1, 1) := by decide +kernel
theorem dX8_init_182 : decode cX8_init 182 = .ok (.iload_n 1, 1) := by decide +kernel
theorem dX8_init_183 : decode cX8_init 183 = .ok (.bipush 6, 2) := by decide +kernel
theorem dX8_init_185 : decode cX8_init 185 = .ok (.if_icmp .ge 25, 3) := by decide +kernel
theorem dX8_init_188 : decode cX8_init 188 = .ok (.aload_n 0, 1) := by decide +kernel
theorem dX8_init_189 : decode cX8_init 189 = .ok (.getfield 7, 3) := by decide +kernel
theorem dX8_init_192 : decode cX8_init 192 = .ok (.iload_n 1, 1) := by decide +kernel
theorem dX8_init_193 : decode cX8_init 193 = .ok (.bipush 100, 2) := by decide +kernel
theorem dX8_init_195 : decode cX8_init 195 = .ok (.iastore, 1) := by decide +kernel
theorem dX8_init_196 : decode cX8_init 196 = .ok (.aload_n 0, 1) := by decide +kernel
theorem dX8_init_197 : decode cX8_init 197 = .ok (.getfield 13, 3) := by decide +kernel
theorem dX8_init_200 : decode cX8_init 200 = .ok (.iload_n 1, 1) := by decide +kernel
theorem dX8_init_201 : decode cX8_init 201 = .ok (.bipush 100, 2) := by decide +kernel
theorem dX8_init_203 : decode cX8_init 203 = .ok (.iastore, 1) := by decide +kernel
theorem dX8_init_204 : decode cX8_init 204 = .ok (.iinc 1 1, 3) := by decide +kernel
theorem dX8_init_207 : decode cX8_init 207 = .ok (.goto (-25), 3) := by decide +kernel
theorem dX8_init_210 : decode cX8_init 210 = .ok (.iconst 0, 1) := by decide +kernel
theorem dX8_init_211 : decode cX8_init 211 = .ok (.istore_n 1, 1) := by decide +kernel
theorem dX8_init_212 : decode cX8_init 212 = .ok (.iload_n 1, 1) := by decide +kernel
theorem dX8_init_213 : decode cX8_init 213 = .ok (.bipush 8, 2) := by decide +kernel
theorem dX8_init_215 : decode cX8_init 215 = .ok (.if_icmp .ge 25, 3) := by decide +kernel
theorem dX8_init_218 : decode cX8_init 218 = .ok (.aload_n 0, 1) := by decide +kernel
theorem dX8_init_219 : decode cX8_init 219 = .ok (.getfield 19, 3) := by decide +kernel
theorem dX8_init_222 : decode cX8_init 222 = .ok (.iload_n 1, 1) := by decide +kernel
theorem dX8_init_223 : decode cX8_init 223 = .ok (.bipush 100, 2) := by decide +kernel
theorem dX8_init_225 : decode cX8_init 225 = .ok (.iastore, 1) := by decide +kernel
theorem dX8_init_226 : decode cX8_init 226 = .ok (.aload_n 0, 1) := by decide +kernel
theorem dX8_init_227 : decode cX8_init 227 = .ok (.getfield 22, 3) := by decide +kernel
theorem dX8_init_230 : decode cX8_init 230 = .ok (.iload_n 1, 1) := by decide +kernel
theorem dX8_init_231 : decode cX8_init 231 = .ok (.bipush (-6), 2) := by decide +kernel
theorem dX8_init_233 : decode cX8_init 233 = .ok (.iastore, 1) := by decide +kernel
theorem dX8_init_234 : decode cX8_init 234 = .ok (.iinc 1 1, 3) := by decide +kernel
theorem dX8_init_237 : decode cX8_init 237 = .ok (.goto (-25), 3) := by decide +kernel
theorem dX8_init_240 : decode cX8_init 240 = .ok (.return_, 1) := by decide +kernel
theorem dX8_in_0 : decode cX8_in 0 = .ok (.lload_n 0, 1) := by decide +kernel
theorem dX8_in_1 : decode cX8_in 1 = .ok (.lload_n 2, 1) := by decide +kernel
theorem dX8_in_2 : decode cX8_in 2 = .ok (.lcmp, 1) := by decide +kernel
theorem dX8_in_3 : decode cX8_in 3 = .ok (.ifCond .lt 14, 3) := by decide +kernel
theorem dX8_in_6 : decode cX8_in 6 = .ok (.lload_n 0, 1) := by decide +kernel
theorem dX8_in_7 : decode cX8_in 7 = .ok (.lload 4, 2) := by decide +kernel
theorem dX8_in_9 : decode cX8_in 9 = .ok (.lcmp, 1) := by decide +kernel
theorem dX8_in_10 : decode cX8_in 10 = .ok (.ifCond .gt 7, 3) := by decide +kernel
theorem dX8_in_13 : decode cX8_in 13 = .ok (.iconst 1, 1) := by decide +kernel
theorem dX8_in_14 : decode cX8_in 14 = .ok (.goto 4, 3) := by decide +kernel
theorem dX8_in_17 : decode cX8_in 17 = .ok (.iconst 0, 1) := by decide +kernel
theorem dX8_in_18 : decode cX8_in 18 = .ok (.ireturn, 1) := by decide +kernel
theorem dX8_bitsOf_0 : decode cX8_bitsOf 0 = .ok (.iconst 0, 1) := by decide +kernel
theorem dX8_bitsOf_1 : decode cX8_bitsOf 1 = .ok (.istore_n 1, 1) := by decide +kernel
theorem dX8_bitsOf_2 : decode cX8_bitsOf 2 = .ok (.iload_n 0, 1) := by decide +kernel
theorem dX8_bitsOf_3 : decode cX8_bitsOf 3 = .ok (.istore_n 2, 1) := by decide +kernel
theorem dX8_bitsOf_4 : decode cX8_bitsOf 4 = .ok (.iload_n 2, 1) := by decide +kernel
theorem dX8_bitsOf_5 : decode cX8_bitsOf 5 = .ok (.ifCond .eq 15, 3) := by decide +kernel
theorem dX8_bitsOf_8 : decode cX8_bitsOf 8 = .ok (.iinc 1 1, 3) := by decide +kernel
theorem dX8_bitsOf_11 : decode cX8_bitsOf 11 = .ok (.iload_n 2, 1) := by decide +kernel
theorem dX8_bitsOf_12 : decode cX8_bitsOf 12 = .ok (.iload_n 2, 1) := by decide +kernel
theorem dX8_bitsOf_13 : decode cX8_bitsOf 13 = .ok (.iconst 1, 1) := by decide +kernel
theorem dX8_bitsOf_14 : decode cX8_bitsOf 14 = .ok (.isub, 1) := by decide +kernel
theorem dX8_bitsOf_15 : decode cX8_bitsOf 15 = .ok (.iand, 1) := by decide +kernel
theorem dX8_bitsOf_16 : decode cX8_bitsOf 16 = .ok (.istore_n 2, 1) := by decide +kernel
theorem dX8_bitsOf_17 : decode cX8_bitsOf 17 = .ok (.goto (-13), 3) := by decide +kernel
theorem dX8_bitsOf_20 : decode cX8_bitsOf 20 = .ok (.iload_n 1, 1) := by decide +kernel
theorem dX8_bitsOf_21 : decode cX8_bitsOf 21 = .ok (.ireturn, 1) := by decide +kernel
theorem dX8_isOne_0 : decode cX8_isOne 0 = .ok (.iload_n 0, 1) := by decide +kernel
theorem dX8_isOne_1 : decode cX8_isOne 1 = .ok (.i2l, 1) := by decide +kernel
theorem dX8_isOne_2 : decode cX8_isOne 2 = .ok (.lconst 0, 1) := by decide +kernel
theorem dX8_isOne_3 : decode cX8_isOne 3 = .ok (.ldc2_w 78, 3) := by decide +kernel
theorem dX8_isOne_6 : decode cX8_isOne 6 = .ok (.invokestatic 80, 3) := by decide +kernel
theorem dX8_isOne_9 : decode cX8_isOne 9 = .ok (.ireturn, 1) := by decide +kernel
theorem dX8_one_0 : decode cX8_one 0 = .ok (.iload_n 1, 1) := by decide +kernel
theorem dX8_one_1 : decode cX8_one 1 = .ok (.invokestatic 84, 3) := by decide +kernel
theorem dX8_one_4 : decode cX8_one 4 = .ok (.ifCond .ne 5, 3) := by decide +kernel
theorem dX8_one_7 : decode cX8_one 7 = .ok (.iconst (-1), 1) := by decide +kernel
theorem dX8_one_8 : decode cX8_one 8 = .ok (.ireturn, 1) := by decide +kernel
theorem dX8_one_9 : decode cX8_one 9 = .ok (.iload_n 2, 1) := by decide +kernel
theorem dX8_one_10 : decode cX8_one 10 = .ok (.i2l, 1) := by decide +kernel
theorem dX8_one_11 : decode cX8_one 11 = .ok (.lconst 0, 1) := by decide +kernel
theorem dX8_one_12 : decode cX8_one 12 = .ok (.ldc2_w 88, 3) := by decide +kernel
theorem dX8_one_15 : decode cX8_one 15 = .ok (.invokestatic 80, 3) := by decide +kernel
theorem dX8_one_18 : decode cX8_one 18 = .ok (.ifCond .eq 15, 3) := by decide +kernel
theorem dX8_one_21 : decode cX8_one 21 = .ok (.iload_n 3, 1) := by decide +kernel
theorem dX8_one_22 : decode cX8_one 22 = .ok (.i2l, 1) := by decide +kernel
theorem dX8_one_23 : decode cX8_one 23 = .ok (.lconst 0, 1) := by decide +kernel
theorem dX8_one_24 : decode cX8_one 24 = .ok (.ldc2_w 88, 3) := by decide +kernel
theorem dX8_one_27 : decode cX8_one 27 = .ok (.invokestatic 80, 3) := by decide +kernel
theorem dX8_one_30 : decode cX8_one 30 = .ok (.ifCond .ne 6, 3) := by decide +kernel
theorem dX8_one_33 : decode cX8_one 33 = .ok (.bipush (-2), 2) := by decide +kernel
theorem dX8_one_35 : decode cX8_one 35 = .ok (.ireturn, 1) := by decide +kernel
theorem dX8_one_36 : decode cX8_one 36 = .ok (.sipush 10000, 3) := by decide +kernel
theorem dX8_one_39 : decode cX8_one 39 = .ok (.aload_n 0, 1) := by decide +kernel
theorem dX8_one_40 : decode cX8_one 40 = .ok (.getfield 7, 3) := by decide +kernel
theorem dX8_one_43 : decode cX8_one 43 = .ok (.iload_n 1, 1) := by decide +kernel
theorem dX8_one_44 : decode cX8_one 44 = .ok (.iaload, 1) := by decide +kernel
theorem dX8_one_45 : decode cX8_one 45 = .ok (.imul, 1) := by decide +kernel
theorem dX8_one_46 : decode cX8_one 46 = .ok (.aload_n 0, 1) := by decide +kernel
theorem dX8_one_47 : decode cX8_one 47 = .ok (.getfield 13, 3) := by decide +kernel
theorem dX8_one_50 : decode cX8_one 50 = .ok (.iload_n 1, 1) := by decide +kernel
theorem dX8_one_51 : decode cX8_one 51 = .ok (.iaload, 1) := by decide +kernel
theorem dX8_one_52 : decode cX8_one 52 = .ok (.iadd, 1) := by decide +kernel
theorem dX8_one_53 : decode cX8_one 53 = .ok (.istore 4, 2) := by decide +kernel
theorem dX8_one_55 : decode cX8_one 55 = .ok (.aload_n 0, 1) := by decide +kernel
theorem dX8_one_56 : decode cX8_one 56 = .ok (.getfield 7, 3) := by decide +kernel
theorem dX8_one_59 : decode cX8_one 59 = .ok (.iload_n 1, 1) := by decide +kernel
theorem dX8_one_60 : decode cX8_one 60 = .ok (.iload_n 2, 1) := by decide +kernel
theorem dX8_one_61 : decode cX8_one 61 = .ok (.iastore, 1) := by decide +kernel
theorem dX8_one_62 : decode cX8_one 62 = .ok (.aload_n 0, 1) := by decide +kernel
theorem dX8_one_63 : decode cX8_one 63 = .ok (.getfield 13, 3) := by decide +kernel
theorem dX8_one_66 : decode cX8_one 66 = .ok (.iload_n 1, 1) := by decide +kernel
theorem dX8_one_67 : decode cX8_one 67 = .ok (.iload_n 3, 1) := by decide +kernel
theorem dX8_one_68 : decode cX8_one 68 = .ok (.iastore, 1) := by decide +kernel
theorem dX8_one_69 : decode cX8_one 69 = .ok (.iload 4, 2) := by decide +kernel
theorem dX8_one_71 : decode cX8_one 71 = .ok (.ireturn, 1) := by decide +kernel
theorem dX8_owe_0 : decode cX8_owe 0 = .ok (.iload_n 1, 1) := by decide +kernel
theorem dX8_owe_1 : decode cX8_owe 1 = .ok (.invokestatic 84, 3) := by decide +kernel
theorem dX8_owe_4 : decode cX8_owe 4 = .ok (.ifCond .eq 15, 3) := by decide +kernel
theorem dX8_owe_7 : decode cX8_owe 7 = .ok (.iload_n 2, 1) := by decide +kernel
theorem dX8_owe_8 : decode cX8_owe 8 = .ok (.invokestatic 84, 3) := by decide +kernel
theorem dX8_owe_11 : decode cX8_owe 11 = .ok (.ifCond .eq 8, 3) := by decide +kernel
theorem dX8_owe_14 : decode cX8_owe 14 = .ok (.iload_n 1, 1) := by decide +kernel
theorem dX8_owe_15 : decode cX8_owe 15 = .ok (.iload_n 2, 1) := by decide +kernel
theorem dX8_owe_16 : decode cX8_owe 16 = .ok (.if_icmp .ne 5, 3) := by decide +kernel
theorem dX8_owe_19 : decode cX8_owe 19 = .ok (.iconst (-1), 1) := by decide +kernel
theorem dX8_owe_20 : decode cX8_owe 20 = .ok (.ireturn, 1) := by decide +kernel
theorem dX8_owe_21 : decode cX8_owe 21 = .ok (.iload_n 3, 1) := by decide +kernel
theorem dX8_owe_22 : decode cX8_owe 22 = .ok (.i2l, 1) := by decide +kernel
theorem dX8_owe_23 : decode cX8_owe 23 = .ok (.lconst 0, 1) := by decide +kernel
theorem dX8_owe_24 : decode cX8_owe 24 = .ok (.ldc2_w 90, 3) := by decide +kernel
theorem dX8_owe_27 : decode cX8_owe 27 = .ok (.invokestatic 80, 3) := by decide +kernel
theorem dX8_owe_30 : decode cX8_owe 30 = .ok (.ifCond .ne 6, 3) := by decide +kernel
theorem dX8_owe_33 : decode cX8_owe 33 = .ok (.bipush (-2), 2) := by decide +kernel
theorem dX8_owe_35 : decode cX8_owe 35 = .ok (.ireturn, 1) := by decide +kernel
theorem dX8_owe_36 : decode cX8_owe 36 = .ok (.aload_n 0, 1) := by decide +kernel
theorem dX8_owe_37 : decode cX8_owe 37 = .ok (.getfield 16, 3) := by decide +kernel
theorem dX8_owe_40 : decode cX8_owe 40 = .ok (.bipush 6, 2) := by decide +kernel
theorem dX8_owe_42 : decode cX8_owe 42 = .ok (.iload_n 1, 1) := by decide +kernel
theorem dX8_owe_43 : decode cX8_owe 43 = .ok (.imul, 1) := by decide +kernel
theorem dX8_owe_44 : decode cX8_owe 44 = .ok (.iload_n 2, 1) := by decide +kernel
theorem dX8_owe_45 : decode cX8_owe 45 = .ok (.iadd, 1) := by decide +kernel
theorem dX8_owe_46 : decode cX8_owe 46 = .ok (.iaload, 1) := by decide +kernel
theorem dX8_owe_47 : decode cX8_owe 47 = .ok (.istore 4, 2) := by decide +kernel
theorem dX8_owe_49 : decode cX8_owe 49 = .ok (.aload_n 0, 1) := by decide +kernel
theorem dX8_owe_50 : decode cX8_owe 50 = .ok (.getfield 16, 3) := by decide +kernel
theorem dX8_owe_53 : decode cX8_owe 53 = .ok (.bipush 6, 2) := by decide +kernel
theorem dX8_owe_55 : decode cX8_owe 55 = .ok (.iload_n 1, 1) := by decide +kernel
theorem dX8_owe_56 : decode cX8_owe 56 = .ok (.imul, 1) := by decide +kernel
theorem dX8_owe_57 : decode cX8_owe 57 = .ok (.iload_n 2, 1) := by decide +kernel
theorem dX8_owe_58 : decode cX8_owe 58 = .ok (.iadd, 1) := by decide +kernel
theorem dX8_owe_59 : decode cX8_owe 59 = .ok (.iload_n 3, 1) := by decide +kernel
theorem dX8_owe_60 : decode cX8_owe 60 = .ok (.iastore, 1) := by decide +kernel
theorem dX8_owe_61 : decode cX8_owe 61 = .ok (.iload 4, 2) := by decide +kernel
theorem dX8_owe_63 : decode cX8_owe 63 = .ok (.ireturn, 1) := by decide +kernel
theorem dX8_lot_0 : decode cX8_lot 0 = .ok (.iload_n 1, 1) := by decide +kernel
theorem dX8_lot_1 : decode cX8_lot 1 = .ok (.i2l, 1) := by decide +kernel
theorem dX8_lot_2 : decode cX8_lot 2 = .ok (.lconst 0, 1) := by decide +kernel
theorem dX8_lot_3 : decode cX8_lot 3 = .ok (.ldc2_w 92, 3) := by decide +kernel
theorem dX8_lot_6 : decode cX8_lot 6 = .ok (.invokestatic 80, 3) := by decide +kernel
theorem dX8_lot_9 : decode cX8_lot 9 = .ok (.ifCond .eq 17, 3) := by decide +kernel
theorem dX8_lot_12 : decode cX8_lot 12 = .ok (.iload_n 3, 1) := by decide +kernel
theorem dX8_lot_13 : decode cX8_lot 13 = .ok (.i2l, 1) := by decide +kernel
theorem dX8_lot_14 : decode cX8_lot 14 = .ok (.ldc2_w 94, 3) := by decide +kernel
theorem dX8_lot_17 : decode cX8_lot 17 = .ok (.ldc2_w 78, 3) := by decide +kernel
theorem dX8_lot_20 : decode cX8_lot 20 = .ok (.invokestatic 80, 3) := by decide +kernel
theorem dX8_lot_23 : decode cX8_lot 23 = .ok (.ifCond .ne 5, 3) := by decide +kernel
theorem dX8_lot_26 : decode cX8_lot 26 = .ok (.iconst (-1), 1) := by decide +kernel
theorem dX8_lot_27 : decode cX8_lot 27 = .ok (.ireturn, 1) := by decide +kernel
theorem dX8_lot_28 : decode cX8_lot 28 = .ok (.iload_n 2, 1) := by decide +kernel
theorem dX8_lot_29 : decode cX8_lot 29 = .ok (.i2l, 1) := by decide +kernel
theorem dX8_lot_30 : decode cX8_lot 30 = .ok (.lconst 1, 1) := by decide +kernel
theorem dX8_lot_31 : decode cX8_lot 31 = .ok (.ldc2_w 90, 3) := by decide +kernel
theorem dX8_lot_34 : decode cX8_lot 34 = .ok (.invokestatic 80, 3) := by decide +kernel
theorem dX8_lot_37 : decode cX8_lot 37 = .ok (.ifCond .ne 6, 3) := by decide +kernel
theorem dX8_lot_40 : decode cX8_lot 40 = .ok (.bipush (-2), 2) := by decide +kernel
theorem dX8_lot_42 : decode cX8_lot 42 = .ok (.ireturn, 1) := by decide +kernel
theorem dX8_lot_43 : decode cX8_lot 43 = .ok (.aload_n 0, 1) := by decide +kernel
theorem dX8_lot_44 : decode cX8_lot 44 = .ok (.getfield 19, 3) := by decide +kernel
theorem dX8_lot_47 : decode cX8_lot 47 = .ok (.iload_n 1, 1) := by decide +kernel
theorem dX8_lot_48 : decode cX8_lot 48 = .ok (.iaload, 1) := by decide +kernel
theorem dX8_lot_49 : decode cX8_lot 49 = .ok (.istore 4, 2) := by decide +kernel
theorem dX8_lot_51 : decode cX8_lot 51 = .ok (.aload_n 0, 1) := by decide +kernel
theorem dX8_lot_52 : decode cX8_lot 52 = .ok (.getfield 19, 3) := by decide +kernel
theorem dX8_lot_55 : decode cX8_lot 55 = .ok (.iload_n 1, 1) := by decide +kernel
theorem dX8_lot_56 : decode cX8_lot 56 = .ok (.iload_n 2, 1) := by decide +kernel
theorem dX8_lot_57 : decode cX8_lot 57 = .ok (.iastore, 1) := by decide +kernel
theorem dX8_lot_58 : decode cX8_lot 58 = .ok (.aload_n 0, 1) := by decide +kernel
theorem dX8_lot_59 : decode cX8_lot 59 = .ok (.getfield 22, 3) := by decide +kernel
theorem dX8_lot_62 : decode cX8_lot 62 = .ok (.iload_n 1, 1) := by decide +kernel
theorem dX8_lot_63 : decode cX8_lot 63 = .ok (.iload_n 3, 1) := by decide +kernel
theorem dX8_lot_64 : decode cX8_lot 64 = .ok (.ifCond .ge 8, 3) := by decide +kernel
theorem dX8_lot_67 : decode cX8_lot 67 = .ok (.bipush (-6), 2) := by decide +kernel
theorem dX8_lot_69 : decode cX8_lot 69 = .ok (.goto 4, 3) := by decide +kernel
theorem dX8_lot_72 : decode cX8_lot 72 = .ok (.iload_n 3, 1) := by decide +kernel
theorem dX8_lot_73 : decode cX8_lot 73 = .ok (.iastore, 1) := by decide +kernel
theorem dX8_lot_74 : decode cX8_lot 74 = .ok (.iload 4, 2) := by decide +kernel
theorem dX8_lot_76 : decode cX8_lot 76 = .ok (.ireturn, 1) := by decide +kernel
theorem dX8_set_0 : decode cX8_set 0 = .ok (.iload_n 1, 1) := by decide +kernel
theorem dX8_set_1 : decode cX8_set 1 = .ok (.i2l, 1) := by decide +kernel
theorem dX8_set_2 : decode cX8_set 2 = .ok (.lconst 0, 1) := by decide +kernel
theorem dX8_set_3 : decode cX8_set 3 = .ok (.lconst 1, 1) := by decide +kernel
theorem dX8_set_4 : decode cX8_set 4 = .ok (.invokestatic 80, 3) := by decide +kernel
theorem dX8_set_7 : decode cX8_set 7 = .ok (.ifCond .eq 15, 3) := by decide +kernel
theorem dX8_set_10 : decode cX8_set 10 = .ok (.iload_n 2, 1) := by decide +kernel
theorem dX8_set_11 : decode cX8_set 11 = .ok (.i2l, 1) := by decide +kernel
theorem dX8_set_12 : decode cX8_set 12 = .ok (.lconst 0, 1) := by decide +kernel
theorem dX8_set_13 : decode cX8_set 13 = .ok (.ldc2_w 96, 3) := by decide +kernel
theorem dX8_set_16 : decode cX8_set 16 = .ok (.invokestatic 80, 3) := by decide +kernel
theorem dX8_set_19 : decode cX8_set 19 = .ok (.ifCond .ne 6, 3) := by decide +kernel
theorem dX8_set_22 : decode cX8_set 22 = .ok (.bipush (-2), 2) := by decide +kernel
theorem dX8_set_24 : decode cX8_set 24 = .ok (.ireturn, 1) := by decide +kernel
theorem dX8_set_25 : decode cX8_set 25 = .ok (.iload_n 1, 1) := by decide +kernel
theorem dX8_set_26 : decode cX8_set 26 = .ok (.ifCond .ne 10, 3) := by decide +kernel
theorem dX8_set_29 : decode cX8_set 29 = .ok (.aload_n 0, 1) := by decide +kernel
theorem dX8_set_30 : decode cX8_set 30 = .ok (.getfield 98, 3) := by decide +kernel
theorem dX8_set_33 : decode cX8_set 33 = .ok (.goto 7, 3) := by decide +kernel
theorem dX8_set_36 : decode cX8_set 36 = .ok (.aload_n 0, 1) := by decide +kernel
theorem dX8_set_37 : decode cX8_set 37 = .ok (.getfield 102, 3) := by decide +kernel
theorem dX8_set_40 : decode cX8_set 40 = .ok (.istore_n 3, 1) := by decide +kernel
theorem dX8_set_41 : decode cX8_set 41 = .ok (.aload_n 0, 1) := by decide +kernel
theorem dX8_set_42 : decode cX8_set 42 = .ok (.iload_n 1, 1) := by decide +kernel
theorem dX8_set_43 : decode cX8_set 43 = .ok (.ifCond .ne 7, 3) := by decide +kernel
theorem dX8_set_46 : decode cX8_set 46 = .ok (.iload_n 2, 1) := by decide +kernel
theorem dX8_set_47 : decode cX8_set 47 = .ok (.goto 7, 3) := by decide +kernel
theorem dX8_set_50 : decode cX8_set 50 = .ok (.aload_n 0, 1) := by decide +kernel
theorem dX8_set_51 : decode cX8_set 51 = .ok (.getfield 98, 3) := by decide +kernel
theorem dX8_set_54 : decode cX8_set 54 = .ok (.putfield 98, 3) := by decide +kernel
theorem dX8_set_57 : decode cX8_set 57 = .ok (.aload_n 0, 1) := by decide +kernel
theorem dX8_set_58 : decode cX8_set 58 = .ok (.iload_n 1, 1) := by decide +kernel
theorem dX8_set_59 : decode cX8_set 59 = .ok (.iconst 1, 1) := by decide +kernel
theorem dX8_set_60 : decode cX8_set 60 = .ok (.if_icmp .ne 7, 3) := by decide +kernel
theorem dX8_set_63 : decode cX8_set 63 = .ok (.iload_n 2, 1) := by decide +kernel
theorem dX8_set_64 : decode cX8_set 64 = .ok (.goto 7, 3) := by decide +kernel
theorem dX8_set_67 : decode cX8_set 67 = .ok (.aload_n 0, 1) := by decide +kernel
theorem dX8_set_68 : decode cX8_set 68 = .ok (.getfield 102, 3) := by decide +kernel
theorem dX8_set_71 : decode cX8_set 71 = .ok (.putfield 102, 3) := by decide +kernel
theorem dX8_set_74 : decode cX8_set 74 = .ok (.iload_n 3, 1) := by decide +kernel
theorem dX8_set_75 : decode cX8_set 75 = .ok (.ireturn, 1) := by decide +kernel
theorem dX8_say_0 : decode cX8_say 0 = .ok (.iload_n 1, 1) := by decide +kernel
theorem dX8_say_1 : decode cX8_say 1 = .ok (.i2l, 1) := by decide +kernel
theorem dX8_say_2 : decode cX8_say 2 = .ok (.ldc2_w 105, 3) := by decide +kernel
theorem dX8_say_5 : decode cX8_say 5 = .ok (.ldc2_w 107, 3) := by decide +kernel
theorem dX8_say_8 : decode cX8_say 8 = .ok (.invokestatic 80, 3) := by decide +kernel
theorem dX8_say_11 : decode cX8_say 11 = .ok (.ifCond .ne 6, 3) := by decide +kernel
theorem dX8_say_14 : decode cX8_say 14 = .ok (.bipush (-2), 2) := by decide +kernel
theorem dX8_say_16 : decode cX8_say 16 = .ok (.ireturn, 1) := by decide +kernel
theorem dX8_say_17 : decode cX8_say 17 = .ok (.aload_n 0, 1) := by decide +kernel
theorem dX8_say_18 : decode cX8_say 18 = .ok (.getfield 109, 3) := by decide +kernel
theorem dX8_say_21 : decode cX8_say 21 = .ok (.bipush 60, 2) := by decide +kernel
theorem dX8_say_23 : decode cX8_say 23 = .ok (.if_icmp .ne 6, 3) := by decide +kernel
theorem dX8_say_26 : decode cX8_say 26 = .ok (.bipush (-4), 2) := by decide +kernel
theorem dX8_say_28 : decode cX8_say 28 = .ok (.ireturn, 1) := by decide +kernel
theorem dX8_say_29 : decode cX8_say 29 = .ok (.aload_n 0, 1) := by decide +kernel
theorem dX8_say_30 : decode cX8_say 30 = .ok (.getfield 34, 3) := by decide +kernel
theorem dX8_say_33 : decode cX8_say 33 = .ok (.aload_n 0, 1) := by decide +kernel
theorem dX8_say_34 : decode cX8_say 34 = .ok (.getfield 109, 3) := by decide +kernel
theorem dX8_say_37 : decode cX8_say 37 = .ok (.iload_n 1, 1) := by decide +kernel
theorem dX8_say_38 : decode cX8_say 38 = .ok (.iastore, 1) := by decide +kernel
theorem dX8_say_39 : decode cX8_say 39 = .ok (.aload_n 0, 1) := by decide +kernel
theorem dX8_say_40 : decode cX8_say 40 = .ok (.dup, 1) := by decide +kernel
theorem dX8_say_41 : decode cX8_say 41 = .ok (.getfield 109, 3) := by decide +kernel
theorem dX8_say_44 : decode cX8_say 44 = .ok (.iconst 1, 1) := by decide +kernel
theorem dX8_say_45 : decode cX8_say 45 = .ok (.iadd, 1) := by decide +kernel
theorem dX8_say_46 : decode cX8_say 46 = .ok (.putfield 109, 3) := by decide +kernel
theorem dX8_say_49 : decode cX8_say 49 = .ok (.aload_n 0, 1) := by decide +kernel
theorem dX8_say_50 : decode cX8_say 50 = .ok (.getfield 109, 3) := by decide +kernel
theorem dX8_say_53 : decode cX8_say 53 = .ok (.ireturn, 1) := by decide +kernel
theorem dX8_wipe_0 : decode cX8_wipe 0 = .ok (.aload_n 0, 1) := by decide +kernel
theorem dX8_wipe_1 : decode cX8_wipe 1 = .ok (.getfield 109, 3) := by decide +kernel
theorem dX8_wipe_4 : decode cX8_wipe 4 = .ok (.istore_n 1, 1) := by decide +kernel
theorem dX8_wipe_5 : decode cX8_wipe 5 = .ok (.aload_n 0, 1) := by decide +kernel
theorem dX8_wipe_6 : decode cX8_wipe 6 = .ok (.iconst 0, 1) := by decide +kernel
theorem dX8_wipe_7 : decode cX8_wipe 7 = .ok (.putfield 109, 3) := by decide +kernel
theorem dX8_wipe_10 : decode cX8_wipe 10 = .ok (.iload_n 1, 1) := by decide +kernel
theorem dX8_wipe_11 : decode cX8_wipe 11 = .ok (.ireturn, 1) := by decide +kernel
theorem dX8_close_0 : decode cX8_close 0 = .ok (.aload_n 0, 1) := by decide +kernel
theorem dX8_close_1 : decode cX8_close 1 = .ok (.getfield 37, 3) := by decide +kernel
theorem dX8_close_4 : decode cX8_close 4 = .ok (.aload_n 0, 1) := by decide +kernel
theorem dX8_close_5 : decode cX8_close 5 = .ok (.getfield 112, 3) := by decide +kernel
theorem dX8_close_8 : decode cX8_close 8 = .ok (.iload_n 1, 1) := by decide +kernel
theorem dX8_close_9 : decode cX8_close 9 = .ok (.iastore, 1) := by decide +kernel
theorem dX8_close_10 : decode cX8_close 10 = .ok (.aload_n 0, 1) := by decide +kernel
theorem dX8_close_11 : decode cX8_close 11 = .ok (.getfield 43, 3) := by decide +kernel
theorem dX8_close_14 : decode cX8_close 14 = .ok (.aload_n 0, 1) := by decide +kernel
theorem dX8_close_15 : decode cX8_close 15 = .ok (.getfield 112, 3) := by decide +kernel
theorem dX8_close_18 : decode cX8_close 18 = .ok (.iload_n 2, 1) := by decide +kernel
theorem dX8_close_19 : decode cX8_close 19 = .ok (.iastore, 1) := by decide +kernel
theorem dX8_close_20 : decode cX8_close 20 = .ok (.aload_n 0, 1) := by decide +kernel
theorem dX8_close_21 : decode cX8_close 21 = .ok (.dup, 1) := by decide +kernel
theorem dX8_close_22 : decode cX8_close 22 = .ok (.getfield 112, 3) := by decide +kernel
theorem dX8_close_25 : decode cX8_close 25 = .ok (.iconst 1, 1) := by decide +kernel
theorem dX8_close_26 : decode cX8_close 26 = .ok (.iadd, 1) := by decide +kernel
theorem dX8_close_27 : decode cX8_close 27 = .ok (.putfield 112, 3) := by decide +kernel
theorem dX8_close_30 : decode cX8_close 30 = .ok (.iconst 0, 1) := by decide +kernel
theorem dX8_close_31 : decode cX8_close 31 = .ok (.ireturn, 1) := by decide +kernel
theorem dX8_isLetter_0 : decode cX8_isLetter 0 = .ok (.iload_n 0, 1) := by decide +kernel
theorem dX8_isLetter_1 : decode cX8_isLetter 1 = .ok (.i2l, 1) := by decide +kernel
theorem dX8_isLetter_2 : decode cX8_isLetter 2 = .ok (.ldc2_w 115, 3) := by decide +kernel
theorem dX8_isLetter_5 : decode cX8_isLetter 5 = .ok (.ldc2_w 117, 3) := by decide +kernel
theorem dX8_isLetter_8 : decode cX8_isLetter 8 = .ok (.invokestatic 80, 3) := by decide +kernel
theorem dX8_isLetter_11 : decode cX8_isLetter 11 = .ok (.ireturn, 1) := by decide +kernel
theorem dX8_begin_0 : decode cX8_begin 0 = .ok (.aload_n 0, 1) := by decide +kernel
theorem dX8_begin_1 : decode cX8_begin 1 = .ok (.getfield 40, 3) := by decide +kernel
theorem dX8_begin_4 : decode cX8_begin 4 = .ok (.aload_n 0, 1) := by decide +kernel
theorem dX8_begin_5 : decode cX8_begin 5 = .ok (.getfield 112, 3) := by decide +kernel
theorem dX8_begin_8 : decode cX8_begin 8 = .ok (.iload_n 1, 1) := by decide +kernel
theorem dX8_begin_9 : decode cX8_begin 9 = .ok (.invokestatic 119, 3) := by decide +kernel
theorem dX8_begin_12 : decode cX8_begin 12 = .ok (.ifCond .eq 10, 3) := by decide +kernel
theorem dX8_begin_15 : decode cX8_begin 15 = .ok (.iload_n 1, 1) := by decide +kernel
theorem dX8_begin_16 : decode cX8_begin 16 = .ok (.bipush 65, 2) := by decide +kernel
theorem dX8_begin_18 : decode cX8_begin 18 = .ok (.isub, 1) := by decide +kernel
theorem dX8_begin_19 : decode cX8_begin 19 = .ok (.goto 4, 3) := by decide +kernel
theorem dX8_begin_22 : decode cX8_begin 22 = .ok (.iconst 0, 1) := by decide +kernel
theorem dX8_begin_23 : decode cX8_begin 23 = .ok (.iastore, 1) := by decide +kernel
theorem dX8_begin_24 : decode cX8_begin 24 = .ok (.iload_n 1, 1) := by decide +kernel
theorem dX8_begin_25 : decode cX8_begin 25 = .ok (.lookupswitch 47 #[(33, 37), (43, 35), (46, 39)], 35) := by decide +kernel
theorem dX8_begin_60 : decode cX8_begin 60 = .ok (.iconst 2, 1) := by decide +kernel
theorem dX8_begin_61 : decode cX8_begin 61 = .ok (.ireturn, 1) := by decide +kernel
theorem dX8_begin_62 : decode cX8_begin 62 = .ok (.iconst 3, 1) := by decide +kernel
theorem dX8_begin_63 : decode cX8_begin 63 = .ok (.ireturn, 1) := by decide +kernel
theorem dX8_begin_64 : decode cX8_begin 64 = .ok (.aload_n 0, 1) := by decide +kernel
theorem dX8_begin_65 : decode cX8_begin 65 = .ok (.bipush 6, 2) := by decide +kernel
theorem dX8_begin_67 : decode cX8_begin 67 = .ok (.iconst 0, 1) := by decide +kernel
theorem dX8_begin_68 : decode cX8_begin 68 = .ok (.invokevirtual 122, 3) := by decide +kernel
theorem dX8_begin_71 : decode cX8_begin 71 = .ok (.ireturn, 1) := by decide +kernel
theorem dX8_begin_72 : decode cX8_begin 72 = .ok (.iload_n 1, 1) := by decide +kernel
theorem dX8_begin_73 : decode cX8_begin 73 = .ok (.invokestatic 119, 3) := by decide +kernel
theorem dX8_begin_76 : decode cX8_begin 76 = .ok (.ifCond .eq 7, 3) := by decide +kernel
theorem dX8_begin_79 : decode cX8_begin 79 = .ok (.iconst 1, 1) := by decide +kernel
theorem dX8_begin_80 : decode cX8_begin 80 = .ok (.goto 5, 3) := by decide +kernel
theorem dX8_begin_83 : decode cX8_begin 83 = .ok (.bipush (-6), 2) := by decide +kernel
theorem dX8_begin_85 : decode cX8_begin 85 = .ok (.ireturn, 1) := by decide +kernel
theorem dX8_deed_0 : decode cX8_deed 0 = .ok (.iload_n 0, 1) := by decide +kernel
theorem dX8_deed_1 : decode cX8_deed 1 = .ok (.lookupswitch 54 #[(36, 43), (47, 45), (62, 48), (64, 51)], 43) := by decide +kernel
theorem dX8_deed_44 : decode cX8_deed 44 = .ok (.iconst 5, 1) := by decide +kernel
theorem dX8_deed_45 : decode cX8_deed 45 = .ok (.ireturn, 1) := by decide +kernel
theorem dX8_deed_46 : decode cX8_deed 46 = .ok (.bipush 6, 2) := by decide +kernel
theorem dX8_deed_48 : decode cX8_deed 48 = .ok (.ireturn, 1) := by decide +kernel
theorem dX8_deed_49 : decode cX8_deed 49 = .ok (.bipush 7, 2) := by decide +kernel
theorem dX8_deed_51 : decode cX8_deed 51 = .ok (.ireturn, 1) := by decide +kernel
theorem dX8_deed_52 : decode cX8_deed 52 = .ok (.bipush 8, 2) := by decide +kernel
theorem dX8_deed_54 : decode cX8_deed 54 = .ok (.ireturn, 1) := by decide +kernel
theorem dX8_deed_55 : decode cX8_deed 55 = .ok (.bipush (-6), 2) := by decide +kernel
theorem dX8_deed_57 : decode cX8_deed 57 = .ok (.ireturn, 1) := by decide +kernel
theorem dX8_forWhom_0 : decode cX8_forWhom 0 = .ok (.aload_n 0, 1) := by decide +kernel
theorem dX8_forWhom_1 : decode cX8_forWhom 1 = .ok (.getfield 40, 3) := by decide +kernel
theorem dX8_forWhom_4 : decode cX8_forWhom 4 = .ok (.aload_n 0, 1) := by decide +kernel
theorem dX8_forWhom_5 : decode cX8_forWhom 5 = .ok (.getfield 112, 3) := by decide +kernel
theorem dX8_forWhom_8 : decode cX8_forWhom 8 = .ok (.iload_n 1, 1) := by decide +kernel
theorem dX8_forWhom_9 : decode cX8_forWhom 9 = .ok (.bipush 65, 2) := by decide +kernel
theorem dX8_forWhom_11 : decode cX8_forWhom 11 = .ok (.isub, 1) := by decide +kernel
theorem dX8_forWhom_12 : decode cX8_forWhom 12 = .ok (.iastore, 1) := by decide +kernel
theorem dX8_forWhom_13 : decode cX8_forWhom 13 = .ok (.iload_n 1, 1) := by decide +kernel
theorem dX8_forWhom_14 : decode cX8_forWhom 14 = .ok (.invokestatic 119, 3) := by decide +kernel
theorem dX8_forWhom_17 : decode cX8_forWhom 17 = .ok (.ifCond .eq 7, 3) := by decide +kernel
theorem dX8_forWhom_20 : decode cX8_forWhom 20 = .ok (.iconst 4, 1) := by decide +kernel
theorem dX8_forWhom_21 : decode cX8_forWhom 21 = .ok (.goto 5, 3) := by decide +kernel
theorem dX8_forWhom_24 : decode cX8_forWhom 24 = .ok (.bipush (-6), 2) := by decide +kernel
theorem dX8_forWhom_26 : decode cX8_forWhom 26 = .ok (.ireturn, 1) := by decide +kernel
theorem dX8_number_0 : decode cX8_number 0 = .ok (.iload_n 2, 1) := by decide +kernel
theorem dX8_number_1 : decode cX8_number 1 = .ok (.i2l, 1) := by decide +kernel
theorem dX8_number_2 : decode cX8_number 2 = .ok (.ldc2_w 126, 3) := by decide +kernel
theorem dX8_number_5 : decode cX8_number 5 = .ok (.ldc2_w 128, 3) := by decide +kernel
theorem dX8_number_8 : decode cX8_number 8 = .ok (.invokestatic 80, 3) := by decide +kernel
theorem dX8_number_11 : decode cX8_number 11 = .ok (.ifCond .eq 17, 3) := by decide +kernel
theorem dX8_number_14 : decode cX8_number 14 = .ok (.aload_n 0, 1) := by decide +kernel
theorem dX8_number_15 : decode cX8_number 15 = .ok (.iload_n 1, 1) := by decide +kernel
theorem dX8_number_16 : decode cX8_number 16 = .ok (.iload_n 3, 1) := by decide +kernel
theorem dX8_number_17 : decode cX8_number 17 = .ok (.iload_n 2, 1) := by decide +kernel
theorem dX8_number_18 : decode cX8_number 18 = .ok (.bipush 48, 2) := by decide +kernel
theorem dX8_number_20 : decode cX8_number 20 = .ok (.isub, 1) := by decide +kernel
theorem dX8_number_21 : decode cX8_number 21 = .ok (.imul, 1) := by decide +kernel
theorem dX8_number_22 : decode cX8_number 22 = .ok (.invokevirtual 122, 3) := by decide +kernel
theorem dX8_number_25 : decode cX8_number 25 = .ok (.goto 5, 3) := by decide +kernel
theorem dX8_number_28 : decode cX8_number 28 = .ok (.bipush (-6), 2) := by decide +kernel
theorem dX8_number_30 : decode cX8_number 30 = .ok (.ireturn, 1) := by decide +kernel
theorem dX8_readOn_0 : decode cX8_readOn 0 = .ok (.iload_n 1, 1) := by decide +kernel
theorem dX8_readOn_1 : decode cX8_readOn 1 = .ok (.tableswitch 142 0 7 #[47, 53, 58, 67, 73, 82, 111, 120], 47) := by decide +kernel
theorem dX8_readOn_48 : decode cX8_readOn 48 = .ok (.aload_n 0, 1) := by decide +kernel
theorem dX8_readOn_49 : decode cX8_readOn 49 = .ok (.iload_n 2, 1) := by decide +kernel
theorem dX8_readOn_50 : decode cX8_readOn 50 = .ok (.invokevirtual 130, 3) := by decide +kernel
theorem dX8_readOn_53 : decode cX8_readOn 53 = .ok (.ireturn, 1) := by decide +kernel
theorem dX8_readOn_54 : decode cX8_readOn 54 = .ok (.iload_n 2, 1) := by decide +kernel
theorem dX8_readOn_55 : decode cX8_readOn 55 = .ok (.invokestatic 134, 3) := by decide +kernel
theorem dX8_readOn_58 : decode cX8_readOn 58 = .ok (.ireturn, 1) := by decide +kernel
theorem dX8_readOn_59 : decode cX8_readOn 59 = .ok (.aload_n 0, 1) := by decide +kernel
theorem dX8_readOn_60 : decode cX8_readOn 60 = .ok (.iconst 0, 1) := by decide +kernel
theorem dX8_readOn_61 : decode cX8_readOn 61 = .ok (.iload_n 2, 1) := by decide +kernel
theorem dX8_readOn_62 : decode cX8_readOn 62 = .ok (.bipush 100, 2) := by decide +kernel
theorem dX8_readOn_64 : decode cX8_readOn 64 = .ok (.invokevirtual 137, 3) := by decide +kernel
theorem dX8_readOn_67 : decode cX8_readOn 67 = .ok (.ireturn, 1) := by decide +kernel
theorem dX8_readOn_68 : decode cX8_readOn 68 = .ok (.aload_n 0, 1) := by decide +kernel
theorem dX8_readOn_69 : decode cX8_readOn 69 = .ok (.iload_n 2, 1) := by decide +kernel
theorem dX8_readOn_70 : decode cX8_readOn 70 = .ok (.invokevirtual 141, 3) := by decide +kernel
theorem dX8_readOn_73 : decode cX8_readOn 73 = .ok (.ireturn, 1) := by decide +kernel
theorem dX8_readOn_74 : decode cX8_readOn 74 = .ok (.aload_n 0, 1) := by decide +kernel
theorem dX8_readOn_75 : decode cX8_readOn 75 = .ok (.iconst 1, 1) := by decide +kernel
theorem dX8_readOn_76 : decode cX8_readOn 76 = .ok (.iload_n 2, 1) := by decide +kernel
theorem dX8_readOn_77 : decode cX8_readOn 77 = .ok (.bipush 100, 2) := by decide +kernel
theorem dX8_readOn_79 : decode cX8_readOn 79 = .ok (.invokevirtual 137, 3) := by decide +kernel
theorem dX8_readOn_82 : decode cX8_readOn 82 = .ok (.ireturn, 1) := by decide +kernel
theorem dX8_readOn_83 : decode cX8_readOn 83 = .ok (.iload_n 2, 1) := by decide +kernel
theorem dX8_readOn_84 : decode cX8_readOn 84 = .ok (.i2l, 1) := by decide +kernel
theorem dX8_readOn_85 : decode cX8_readOn 85 = .ok (.ldc2_w 144, 3) := by decide +kernel
theorem dX8_readOn_88 : decode cX8_readOn 88 = .ok (.ldc2_w 146, 3) := by decide +kernel
theorem dX8_readOn_91 : decode cX8_readOn 91 = .ok (.invokestatic 80, 3) := by decide +kernel
theorem dX8_readOn_94 : decode cX8_readOn 94 = .ok (.ifCond .eq 15, 3) := by decide +kernel
theorem dX8_readOn_97 : decode cX8_readOn 97 = .ok (.aload_n 0, 1) := by decide +kernel
theorem dX8_readOn_98 : decode cX8_readOn 98 = .ok (.iconst 2, 1) := by decide +kernel
theorem dX8_readOn_99 : decode cX8_readOn 99 = .ok (.iload_n 2, 1) := by decide +kernel
theorem dX8_readOn_100 : decode cX8_readOn 100 = .ok (.bipush 48, 2) := by decide +kernel
theorem dX8_readOn_102 : decode cX8_readOn 102 = .ok (.isub, 1) := by decide +kernel
theorem dX8_readOn_103 : decode cX8_readOn 103 = .ok (.invokevirtual 122, 3) := by decide +kernel
theorem dX8_readOn_106 : decode cX8_readOn 106 = .ok (.goto 5, 3) := by decide +kernel
theorem dX8_readOn_109 : decode cX8_readOn 109 = .ok (.bipush (-6), 2) := by decide +kernel
theorem dX8_readOn_111 : decode cX8_readOn 111 = .ok (.ireturn, 1) := by decide +kernel
theorem dX8_readOn_112 : decode cX8_readOn 112 = .ok (.aload_n 0, 1) := by decide +kernel
theorem dX8_readOn_113 : decode cX8_readOn 113 = .ok (.iconst 3, 1) := by decide +kernel
theorem dX8_readOn_114 : decode cX8_readOn 114 = .ok (.iload_n 2, 1) := by decide +kernel
theorem dX8_readOn_115 : decode cX8_readOn 115 = .ok (.bipush 10, 2) := by decide +kernel
theorem dX8_readOn_117 : decode cX8_readOn 117 = .ok (.invokevirtual 137, 3) := by decide +kernel
theorem dX8_readOn_120 : decode cX8_readOn 120 = .ok (.ireturn, 1) := by decide +kernel
theorem dX8_readOn_121 : decode cX8_readOn 121 = .ok (.iload_n 2, 1) := by decide +kernel
theorem dX8_readOn_122 : decode cX8_readOn 122 = .ok (.invokestatic 119, 3) := by decide +kernel
theorem dX8_readOn_125 : decode cX8_readOn 125 = .ok (.ifCond .eq 15, 3) := by decide +kernel
theorem dX8_readOn_128 : decode cX8_readOn 128 = .ok (.aload_n 0, 1) := by decide +kernel
theorem dX8_readOn_129 : decode cX8_readOn 129 = .ok (.iconst 4, 1) := by decide +kernel
theorem dX8_readOn_130 : decode cX8_readOn 130 = .ok (.iload_n 2, 1) := by decide +kernel
theorem dX8_readOn_131 : decode cX8_readOn 131 = .ok (.bipush 65, 2) := by decide +kernel
theorem dX8_readOn_133 : decode cX8_readOn 133 = .ok (.isub, 1) := by decide +kernel
theorem dX8_readOn_134 : decode cX8_readOn 134 = .ok (.invokevirtual 122, 3) := by decide +kernel
theorem dX8_readOn_137 : decode cX8_readOn 137 = .ok (.goto 5, 3) := by decide +kernel
theorem dX8_readOn_140 : decode cX8_readOn 140 = .ok (.bipush (-6), 2) := by decide +kernel
theorem dX8_readOn_142 : decode cX8_readOn 142 = .ok (.ireturn, 1) := by decide +kernel
theorem dX8_readOn_143 : decode cX8_readOn 143 = .ok (.aload_n 0, 1) := by decide +kernel
theorem dX8_readOn_144 : decode cX8_readOn 144 = .ok (.iconst 5, 1) := by decide +kernel
theorem dX8_readOn_145 : decode cX8_readOn 145 = .ok (.iload_n 2, 1) := by decide +kernel
theorem dX8_readOn_146 : decode cX8_readOn 146 = .ok (.bipush 100, 2) := by decide +kernel
theorem dX8_readOn_148 : decode cX8_readOn 148 = .ok (.invokevirtual 137, 3) := by decide +kernel
theorem dX8_readOn_151 : decode cX8_readOn 151 = .ok (.ireturn, 1) := by decide +kernel
theorem dX8_fault_0 : decode cX8_fault 0 = .ok (.aload_n 0, 1) := by decide +kernel
theorem dX8_fault_1 : decode cX8_fault 1 = .ok (.iconst 0, 1) := by decide +kernel
theorem dX8_fault_2 : decode cX8_fault 2 = .ok (.putfield 112, 3) := by decide +kernel
theorem dX8_fault_5 : decode cX8_fault 5 = .ok (.iconst 0, 1) := by decide +kernel
theorem dX8_fault_6 : decode cX8_fault 6 = .ok (.istore_n 1, 1) := by decide +kernel
theorem dX8_fault_7 : decode cX8_fault 7 = .ok (.iconst 0, 1) := by decide +kernel
theorem dX8_fault_8 : decode cX8_fault 8 = .ok (.istore_n 2, 1) := by decide +kernel
theorem dX8_fault_9 : decode cX8_fault 9 = .ok (.iload_n 2, 1) := by decide +kernel
theorem dX8_fault_10 : decode cX8_fault 10 = .ok (.aload_n 0, 1) := by decide +kernel
theorem dX8_fault_11 : decode cX8_fault 11 = .ok (.getfield 109, 3) := by decide +kernel
theorem dX8_fault_14 : decode cX8_fault 14 = .ok (.if_icmp .ge 27, 3) := by decide +kernel
theorem dX8_fault_17 : decode cX8_fault 17 = .ok (.aload_n 0, 1) := by decide +kernel
theorem dX8_fault_18 : decode cX8_fault 18 = .ok (.iload_n 1, 1) := by decide +kernel
theorem dX8_fault_19 : decode cX8_fault 19 = .ok (.aload_n 0, 1) := by decide +kernel
theorem dX8_fault_20 : decode cX8_fault 20 = .ok (.getfield 34, 3) := by decide +kernel
theorem dX8_fault_23 : decode cX8_fault 23 = .ok (.iload_n 2, 1) := by decide +kernel
theorem dX8_fault_24 : decode cX8_fault 24 = .ok (.iaload, 1) := by decide +kernel
theorem dX8_fault_25 : decode cX8_fault 25 = .ok (.invokevirtual 148, 3) := by decide +kernel
theorem dX8_fault_28 : decode cX8_fault 28 = .ok (.istore_n 1, 1) := by decide +kernel
theorem dX8_fault_29 : decode cX8_fault 29 = .ok (.iload_n 1, 1) := by decide +kernel
theorem dX8_fault_30 : decode cX8_fault 30 = .ok (.ifCond .ge 5, 3) := by decide +kernel
theorem dX8_fault_33 : decode cX8_fault 33 = .ok (.iload_n 2, 1) := by decide +kernel
theorem dX8_fault_34 : decode cX8_fault 34 = .ok (.ireturn, 1) := by decide +kernel
theorem dX8_fault_35 : decode cX8_fault 35 = .ok (.iinc 2 1, 3) := by decide +kernel
theorem dX8_fault_38 : decode cX8_fault 38 = .ok (.goto (-29), 3) := by decide +kernel
theorem dX8_fault_41 : decode cX8_fault 41 = .ok (.iload_n 1, 1) := by decide +kernel
theorem dX8_fault_42 : decode cX8_fault 42 = .ok (.ifCond .ne 8, 3) := by decide +kernel
theorem dX8_fault_45 : decode cX8_fault 45 = .ok (.bipush (-6), 2) := by decide +kernel
theorem dX8_fault_47 : decode cX8_fault 47 = .ok (.goto 7, 3) := by decide +kernel
theorem dX8_fault_50 : decode cX8_fault 50 = .ok (.aload_n 0, 1) := by decide +kernel
theorem dX8_fault_51 : decode cX8_fault 51 = .ok (.getfield 109, 3) := by decide +kernel
theorem dX8_fault_54 : decode cX8_fault 54 = .ok (.ireturn, 1) := by decide +kernel
theorem dX8_notes_0 : decode cX8_notes 0 = .ok (.aload_n 0, 1) := by decide +kernel
theorem dX8_notes_1 : decode cX8_notes 1 = .ok (.getfield 98, 3) := by decide +kernel
theorem dX8_notes_4 : decode cX8_notes 4 = .ok (.istore_n 1, 1) := by decide +kernel
theorem dX8_notes_5 : decode cX8_notes 5 = .ok (.iconst 0, 1) := by decide +kernel
theorem dX8_notes_6 : decode cX8_notes 6 = .ok (.istore_n 2, 1) := by decide +kernel
theorem dX8_notes_7 : decode cX8_notes 7 = .ok (.iload_n 2, 1) := by decide +kernel
theorem dX8_notes_8 : decode cX8_notes 8 = .ok (.bipush 6, 2) := by decide +kernel
theorem dX8_notes_10 : decode cX8_notes 10 = .ok (.if_icmp .ge 18, 3) := by decide +kernel
theorem dX8_notes_13 : decode cX8_notes 13 = .ok (.iload_n 1, 1) := by decide +kernel
theorem dX8_notes_14 : decode cX8_notes 14 = .ok (.aload_n 0, 1) := by decide +kernel
theorem dX8_notes_15 : decode cX8_notes 15 = .ok (.getfield 7, 3) := by decide +kernel
theorem dX8_notes_18 : decode cX8_notes 18 = .ok (.iload_n 2, 1) := by decide +kernel
theorem dX8_notes_19 : decode cX8_notes 19 = .ok (.iaload, 1) := by decide +kernel
theorem dX8_notes_20 : decode cX8_notes 20 = .ok (.iadd, 1) := by decide +kernel
theorem dX8_notes_21 : decode cX8_notes 21 = .ok (.istore_n 1, 1) := by decide +kernel
theorem dX8_notes_22 : decode cX8_notes 22 = .ok (.iinc 2 1, 3) := by decide +kernel
theorem dX8_notes_25 : decode cX8_notes 25 = .ok (.goto (-18), 3) := by decide +kernel
theorem dX8_notes_28 : decode cX8_notes 28 = .ok (.iload_n 1, 1) := by decide +kernel
theorem dX8_notes_29 : decode cX8_notes 29 = .ok (.ireturn, 1) := by decide +kernel
theorem dX8_land_0 : decode cX8_land 0 = .ok (.iconst 0, 1) := by decide +kernel
theorem dX8_land_1 : decode cX8_land 1 = .ok (.istore_n 1, 1) := by decide +kernel
theorem dX8_land_2 : decode cX8_land 2 = .ok (.iconst 0, 1) := by decide +kernel
theorem dX8_land_3 : decode cX8_land 3 = .ok (.istore_n 2, 1) := by decide +kernel
theorem dX8_land_4 : decode cX8_land 4 = .ok (.iload_n 2, 1) := by decide +kernel
theorem dX8_land_5 : decode cX8_land 5 = .ok (.bipush 8, 2) := by decide +kernel
theorem dX8_land_7 : decode cX8_land 7 = .ok (.if_icmp .ge 31, 3) := by decide +kernel
theorem dX8_land_10 : decode cX8_land 10 = .ok (.iload_n 1, 1) := by decide +kernel
theorem dX8_land_11 : decode cX8_land 11 = .ok (.aload_n 0, 1) := by decide +kernel
theorem dX8_land_12 : decode cX8_land 12 = .ok (.getfield 22, 3) := by decide +kernel
theorem dX8_land_15 : decode cX8_land 15 = .ok (.iload_n 2, 1) := by decide +kernel
theorem dX8_land_16 : decode cX8_land 16 = .ok (.iaload, 1) := by decide +kernel
theorem dX8_land_17 : decode cX8_land 17 = .ok (.ifCond .ge 12, 3) := by decide +kernel
theorem dX8_land_20 : decode cX8_land 20 = .ok (.aload_n 0, 1) := by decide +kernel
theorem dX8_land_21 : decode cX8_land 21 = .ok (.getfield 19, 3) := by decide +kernel
theorem dX8_land_24 : decode cX8_land 24 = .ok (.iload_n 2, 1) := by decide +kernel
theorem dX8_land_25 : decode cX8_land 25 = .ok (.iaload, 1) := by decide +kernel
theorem dX8_land_26 : decode cX8_land 26 = .ok (.goto 4, 3) := by decide +kernel
theorem dX8_land_29 : decode cX8_land 29 = .ok (.iconst 0, 1) := by decide +kernel
theorem dX8_land_30 : decode cX8_land 30 = .ok (.iadd, 1) := by decide +kernel
theorem dX8_land_31 : decode cX8_land 31 = .ok (.istore_n 1, 1) := by decide +kernel
theorem dX8_land_32 : decode cX8_land 32 = .ok (.iinc 2 1, 3) := by decide +kernel
theorem dX8_land_35 : decode cX8_land 35 = .ok (.goto (-31), 3) := by decide +kernel
theorem dX8_land_38 : decode cX8_land 38 = .ok (.iload_n 1, 1) := by decide +kernel
theorem dX8_land_39 : decode cX8_land 39 = .ok (.ireturn, 1) := by decide +kernel
theorem dX8_rateOf_0 : decode cX8_rateOf 0 = .ok (.lload_n 1, 1) := by decide +kernel
theorem dX8_rateOf_1 : decode cX8_rateOf 1 = .ok (.lconst 0, 1) := by decide +kernel
theorem dX8_rateOf_2 : decode cX8_rateOf 2 = .ok (.lcmp, 1) := by decide +kernel
theorem dX8_rateOf_3 : decode cX8_rateOf 3 = .ok (.ifCond .ne 9, 3) := by decide +kernel
theorem dX8_rateOf_6 : decode cX8_rateOf 6 = .ok (.ldc2_w 151, 3) := by decide +kernel
theorem dX8_rateOf_9 : decode cX8_rateOf 9 = .ok (.goto 11, 3) := by decide +kernel
theorem dX8_rateOf_12 : decode cX8_rateOf 12 = .ok (.ldc2_w 151, 3) := by decide +kernel
theorem dX8_rateOf_15 : decode cX8_rateOf 15 = .ok (.iload_n 0, 1) := by decide +kernel
theorem dX8_rateOf_16 : decode cX8_rateOf 16 = .ok (.i2l, 1) := by decide +kernel
theorem dX8_rateOf_17 : decode cX8_rateOf 17 = .ok (.lmul, 1) := by decide +kernel
theorem dX8_rateOf_18 : decode cX8_rateOf 18 = .ok (.lload_n 1, 1) := by decide +kernel
theorem dX8_rateOf_19 : decode cX8_rateOf 19 = .ok (.ldiv, 1) := by decide +kernel
theorem dX8_rateOf_20 : decode cX8_rateOf 20 = .ok (.lstore_n 3, 1) := by decide +kernel
theorem dX8_rateOf_21 : decode cX8_rateOf 21 = .ok (.lload_n 3, 1) := by decide +kernel
theorem dX8_rateOf_22 : decode cX8_rateOf 22 = .ok (.ldc2_w 151, 3) := by decide +kernel
theorem dX8_rateOf_25 : decode cX8_rateOf 25 = .ok (.lcmp, 1) := by decide +kernel
theorem dX8_rateOf_26 : decode cX8_rateOf 26 = .ok (.ifCond .le 8, 3) := by decide +kernel
theorem dX8_rateOf_29 : decode cX8_rateOf 29 = .ok (.bipush 100, 2) := by decide +kernel
theorem dX8_rateOf_31 : decode cX8_rateOf 31 = .ok (.goto 5, 3) := by decide +kernel
theorem dX8_rateOf_34 : decode cX8_rateOf 34 = .ok (.lload_n 3, 1) := by decide +kernel
theorem dX8_rateOf_35 : decode cX8_rateOf 35 = .ok (.l2i, 1) := by decide +kernel
theorem dX8_rateOf_36 : decode cX8_rateOf 36 = .ok (.ireturn, 1) := by decide +kernel
theorem dX8_rate_0 : decode cX8_rate 0 = .ok (.aload_n 0, 1) := by decide +kernel
theorem dX8_rate_1 : decode cX8_rate 1 = .ok (.invokevirtual 153, 3) := by decide +kernel
theorem dX8_rate_4 : decode cX8_rate 4 = .ok (.aload_n 0, 1) := by decide +kernel
theorem dX8_rate_5 : decode cX8_rate 5 = .ok (.invokevirtual 157, 3) := by decide +kernel
theorem dX8_rate_8 : decode cX8_rate 8 = .ok (.i2l, 1) := by decide +kernel
theorem dX8_rate_9 : decode cX8_rate 9 = .ok (.invokestatic 160, 3) := by decide +kernel
theorem dX8_rate_12 : decode cX8_rate 12 = .ok (.ireturn, 1) := by decide +kernel
theorem dX8_worth_0 : decode cX8_worth 0 = .ok (.iload_n 1, 1) := by decide +kernel
theorem dX8_worth_1 : decode cX8_worth 1 = .ok (.aload_n 0, 1) := by decide +kernel
theorem dX8_worth_2 : decode cX8_worth 2 = .ok (.invokevirtual 164, 3) := by decide +kernel
theorem dX8_worth_5 : decode cX8_worth 5 = .ok (.imul, 1) := by decide +kernel
theorem dX8_worth_6 : decode cX8_worth 6 = .ok (.bipush 100, 2) := by decide +kernel
theorem dX8_worth_8 : decode cX8_worth 8 = .ok (.idiv, 1) := by decide +kernel
theorem dX8_worth_9 : decode cX8_worth 9 = .ok (.ireturn, 1) := by decide +kernel
theorem dX8_payment_0 : decode cX8_payment 0 = .ok (.aload_n 0, 1) := by decide +kernel
theorem dX8_payment_1 : decode cX8_payment 1 = .ok (.getfield 16, 3) := by decide +kernel
theorem dX8_payment_4 : decode cX8_payment 4 = .ok (.bipush 6, 2) := by decide +kernel
theorem dX8_payment_6 : decode cX8_payment 6 = .ok (.iload_n 1, 1) := by decide +kernel
theorem dX8_payment_7 : decode cX8_payment 7 = .ok (.imul, 1) := by decide +kernel
theorem dX8_payment_8 : decode cX8_payment 8 = .ok (.iload_n 2, 1) := by decide +kernel
theorem dX8_payment_9 : decode cX8_payment 9 = .ok (.iadd, 1) := by decide +kernel
theorem dX8_payment_10 : decode cX8_payment 10 = .ok (.iaload, 1) := by decide +kernel
theorem dX8_payment_11 : decode cX8_payment 11 = .ok (.istore_n 3, 1) := by decide +kernel
theorem dX8_payment_12 : decode cX8_payment 12 = .ok (.iload_n 3, 1) := by decide +kernel
theorem dX8_payment_13 : decode cX8_payment 13 = .ok (.aload_n 0, 1) := by decide +kernel
theorem dX8_payment_14 : decode cX8_payment 14 = .ok (.getfield 7, 3) := by decide +kernel
theorem dX8_payment_17 : decode cX8_payment 17 = .ok (.iload_n 1, 1) := by decide +kernel
theorem dX8_payment_18 : decode cX8_payment 18 = .ok (.iaload, 1) := by decide +kernel
theorem dX8_payment_19 : decode cX8_payment 19 = .ok (.if_icmp .ge 7, 3) := by decide +kernel
theorem dX8_payment_22 : decode cX8_payment 22 = .ok (.iload_n 3, 1) := by decide +kernel
theorem dX8_payment_23 : decode cX8_payment 23 = .ok (.goto 9, 3) := by decide +kernel
theorem dX8_payment_26 : decode cX8_payment 26 = .ok (.aload_n 0, 1) := by decide +kernel
theorem dX8_payment_27 : decode cX8_payment 27 = .ok (.getfield 7, 3) := by decide +kernel
theorem dX8_payment_30 : decode cX8_payment 30 = .ok (.iload_n 1, 1) := by decide +kernel
theorem dX8_payment_31 : decode cX8_payment 31 = .ok (.iaload, 1) := by decide +kernel
theorem dX8_payment_32 : decode cX8_payment 32 = .ok (.ireturn, 1) := by decide +kernel
theorem dX8_whyNotChange_0 : decode cX8_whyNotChange 0 = .ok (.aload_n 0, 1) := by decide +kernel
theorem dX8_whyNotChange_1 : decode cX8_whyNotChange 1 = .ok (.getfield 7, 3) := by decide +kernel
theorem dX8_whyNotChange_4 : decode cX8_whyNotChange 4 = .ok (.iload_n 1, 1) := by decide +kernel
theorem dX8_whyNotChange_5 : decode cX8_whyNotChange 5 = .ok (.iaload, 1) := by decide +kernel
theorem dX8_whyNotChange_6 : decode cX8_whyNotChange 6 = .ok (.iload_n 2, 1) := by decide +kernel
theorem dX8_whyNotChange_7 : decode cX8_whyNotChange 7 = .ok (.if_icmp .ge 5, 3) := by decide +kernel
theorem dX8_whyNotChange_10 : decode cX8_whyNotChange 10 = .ok (.iconst 3, 1) := by decide +kernel
theorem dX8_whyNotChange_11 : decode cX8_whyNotChange 11 = .ok (.ireturn, 1) := by decide +kernel
theorem dX8_whyNotChange_12 : decode cX8_whyNotChange 12 = .ok (.aload_n 0, 1) := by decide +kernel
theorem dX8_whyNotChange_13 : decode cX8_whyNotChange 13 = .ok (.getfield 13, 3) := by decide +kernel
theorem dX8_whyNotChange_16 : decode cX8_whyNotChange 16 = .ok (.iload_n 1, 1) := by decide +kernel
theorem dX8_whyNotChange_17 : decode cX8_whyNotChange 17 = .ok (.iaload, 1) := by decide +kernel
theorem dX8_whyNotChange_18 : decode cX8_whyNotChange 18 = .ok (.aload_n 0, 1) := by decide +kernel
theorem dX8_whyNotChange_19 : decode cX8_whyNotChange 19 = .ok (.iload_n 2, 1) := by decide +kernel
theorem dX8_whyNotChange_20 : decode cX8_whyNotChange 20 = .ok (.invokevirtual 167, 3) := by decide +kernel
theorem dX8_whyNotChange_23 : decode cX8_whyNotChange 23 = .ok (.iadd, 1) := by decide +kernel
theorem dX8_whyNotChange_24 : decode cX8_whyNotChange 24 = .ok (.sipush 9999, 3) := by decide +kernel
theorem dX8_whyNotChange_27 : decode cX8_whyNotChange 27 = .ok (.if_icmp .gt 14, 3) := by decide +kernel
theorem dX8_whyNotChange_30 : decode cX8_whyNotChange 30 = .ok (.aload_n 0, 1) := by decide +kernel
theorem dX8_whyNotChange_31 : decode cX8_whyNotChange 31 = .ok (.getfield 98, 3) := by decide +kernel
theorem dX8_whyNotChange_34 : decode cX8_whyNotChange 34 = .ok (.iload_n 2, 1) := by decide +kernel
theorem dX8_whyNotChange_35 : decode cX8_whyNotChange 35 = .ok (.iadd, 1) := by decide +kernel
theorem dX8_whyNotChange_36 : decode cX8_whyNotChange 36 = .ok (.ldc 170, 2) := by decide +kernel
theorem dX8_whyNotChange_38 : decode cX8_whyNotChange 38 = .ok (.if_icmp .le 7, 3) := by decide +kernel
theorem dX8_whyNotChange_41 : decode cX8_whyNotChange 41 = .ok (.iconst 5, 1) := by decide +kernel
theorem dX8_whyNotChange_42 : decode cX8_whyNotChange 42 = .ok (.goto 4, 3) := by decide +kernel
theorem dX8_whyNotChange_45 : decode cX8_whyNotChange 45 = .ok (.iconst 0, 1) := by decide +kernel
theorem dX8_whyNotChange_46 : decode cX8_whyNotChange 46 = .ok (.ireturn, 1) := by decide +kernel
theorem dX8_whyNotPay_0 : decode cX8_whyNotPay 0 = .ok (.iload_n 1, 1) := by decide +kernel
theorem dX8_whyNotPay_1 : decode cX8_whyNotPay 1 = .ok (.iload_n 2, 1) := by decide +kernel
theorem dX8_whyNotPay_2 : decode cX8_whyNotPay 2 = .ok (.if_icmp .ne 5, 3) := by decide +kernel
theorem dX8_whyNotPay_5 : decode cX8_whyNotPay 5 = .ok (.iconst 1, 1) := by decide +kernel
theorem dX8_whyNotPay_6 : decode cX8_whyNotPay 6 = .ok (.ireturn, 1) := by decide +kernel
theorem dX8_whyNotPay_7 : decode cX8_whyNotPay 7 = .ok (.aload_n 0, 1) := by decide +kernel
theorem dX8_whyNotPay_8 : decode cX8_whyNotPay 8 = .ok (.iload_n 1, 1) := by decide +kernel
theorem dX8_whyNotPay_9 : decode cX8_whyNotPay 9 = .ok (.iload_n 2, 1) := by decide +kernel
theorem dX8_whyNotPay_10 : decode cX8_whyNotPay 10 = .ok (.invokevirtual 171, 3) := by decide +kernel
theorem dX8_whyNotPay_13 : decode cX8_whyNotPay 13 = .ok (.istore_n 3, 1) := by decide +kernel
theorem dX8_whyNotPay_14 : decode cX8_whyNotPay 14 = .ok (.iload_n 3, 1) := by decide +kernel
theorem dX8_whyNotPay_15 : decode cX8_whyNotPay 15 = .ok (.ifCond .ne 7, 3) := by decide +kernel
theorem dX8_whyNotPay_18 : decode cX8_whyNotPay 18 = .ok (.iconst 4, 1) := by decide +kernel
theorem dX8_whyNotPay_19 : decode cX8_whyNotPay 19 = .ok (.goto 22, 3) := by decide +kernel
theorem dX8_whyNotPay_22 : decode cX8_whyNotPay 22 = .ok (.aload_n 0, 1) := by decide +kernel
theorem dX8_whyNotPay_23 : decode cX8_whyNotPay 23 = .ok (.getfield 7, 3) := by decide +kernel
theorem dX8_whyNotPay_26 : decode cX8_whyNotPay 26 = .ok (.iload_n 2, 1) := by decide +kernel
theorem dX8_whyNotPay_27 : decode cX8_whyNotPay 27 = .ok (.iaload, 1) := by decide +kernel
theorem dX8_whyNotPay_28 : decode cX8_whyNotPay 28 = .ok (.iload_n 3, 1) := by decide +kernel
theorem dX8_whyNotPay_29 : decode cX8_whyNotPay 29 = .ok (.iadd, 1) := by decide +kernel
theorem dX8_whyNotPay_30 : decode cX8_whyNotPay 30 = .ok (.sipush 9999, 3) := by decide +kernel
theorem dX8_whyNotPay_33 : decode cX8_whyNotPay 33 = .ok (.if_icmp .le 7, 3) := by decide +kernel
theorem dX8_whyNotPay_36 : decode cX8_whyNotPay 36 = .ok (.iconst 5, 1) := by decide +kernel
theorem dX8_whyNotPay_37 : decode cX8_whyNotPay 37 = .ok (.goto 4, 3) := by decide +kernel
theorem dX8_whyNotPay_40 : decode cX8_whyNotPay 40 = .ok (.iconst 0, 1) := by decide +kernel
theorem dX8_whyNotPay_41 : decode cX8_whyNotPay 41 = .ok (.ireturn, 1) := by decide +kernel
theorem dX8_whyNot_0 : decode cX8_whyNot 0 = .ok (.iload_n 1, 1) := by decide +kernel
theorem dX8_whyNot_1 : decode cX8_whyNot 1 = .ok (.tableswitch 167 0 5 #[39, 56, 87, 121, 128, 135], 39) := by decide +kernel
theorem dX8_whyNot_40 : decode cX8_whyNot 40 = .ok (.aload_n 0, 1) := by decide +kernel
theorem dX8_whyNot_41 : decode cX8_whyNot 41 = .ok (.getfield 98, 3) := by decide +kernel
theorem dX8_whyNot_44 : decode cX8_whyNot 44 = .ok (.iload_n 3, 1) := by decide +kernel
theorem dX8_whyNot_45 : decode cX8_whyNot 45 = .ok (.iadd, 1) := by decide +kernel
theorem dX8_whyNot_46 : decode cX8_whyNot 46 = .ok (.ldc 170, 2) := by decide +kernel
theorem dX8_whyNot_48 : decode cX8_whyNot 48 = .ok (.if_icmp .le 7, 3) := by decide +kernel
theorem dX8_whyNot_51 : decode cX8_whyNot 51 = .ok (.iconst 5, 1) := by decide +kernel
theorem dX8_whyNot_52 : decode cX8_whyNot 52 = .ok (.goto 4, 3) := by decide +kernel
theorem dX8_whyNot_55 : decode cX8_whyNot 55 = .ok (.iconst 0, 1) := by decide +kernel
theorem dX8_whyNot_56 : decode cX8_whyNot 56 = .ok (.ireturn, 1) := by decide +kernel
theorem dX8_whyNot_57 : decode cX8_whyNot 57 = .ok (.aload_n 0, 1) := by decide +kernel
theorem dX8_whyNot_58 : decode cX8_whyNot 58 = .ok (.getfield 7, 3) := by decide +kernel
theorem dX8_whyNot_61 : decode cX8_whyNot 61 = .ok (.iload_n 2, 1) := by decide +kernel
theorem dX8_whyNot_62 : decode cX8_whyNot 62 = .ok (.iaload, 1) := by decide +kernel
theorem dX8_whyNot_63 : decode cX8_whyNot 63 = .ok (.iload_n 3, 1) := by decide +kernel
theorem dX8_whyNot_64 : decode cX8_whyNot 64 = .ok (.iadd, 1) := by decide +kernel
theorem dX8_whyNot_65 : decode cX8_whyNot 65 = .ok (.sipush 9999, 3) := by decide +kernel
theorem dX8_whyNot_68 : decode cX8_whyNot 68 = .ok (.if_icmp .gt 14, 3) := by decide +kernel
theorem dX8_whyNot_71 : decode cX8_whyNot 71 = .ok (.aload_n 0, 1) := by decide +kernel
theorem dX8_whyNot_72 : decode cX8_whyNot 72 = .ok (.getfield 102, 3) := by decide +kernel
theorem dX8_whyNot_75 : decode cX8_whyNot 75 = .ok (.iload_n 3, 1) := by decide +kernel
theorem dX8_whyNot_76 : decode cX8_whyNot 76 = .ok (.iadd, 1) := by decide +kernel
theorem dX8_whyNot_77 : decode cX8_whyNot 77 = .ok (.ldc 170, 2) := by decide +kernel
theorem dX8_whyNot_79 : decode cX8_whyNot 79 = .ok (.if_icmp .le 7, 3) := by decide +kernel
theorem dX8_whyNot_82 : decode cX8_whyNot 82 = .ok (.iconst 5, 1) := by decide +kernel
theorem dX8_whyNot_83 : decode cX8_whyNot 83 = .ok (.goto 4, 3) := by decide +kernel
theorem dX8_whyNot_86 : decode cX8_whyNot 86 = .ok (.iconst 0, 1) := by decide +kernel
theorem dX8_whyNot_87 : decode cX8_whyNot 87 = .ok (.ireturn, 1) := by decide +kernel
theorem dX8_whyNot_88 : decode cX8_whyNot 88 = .ok (.aload_n 0, 1) := by decide +kernel
theorem dX8_whyNot_89 : decode cX8_whyNot 89 = .ok (.getfield 22, 3) := by decide +kernel
theorem dX8_whyNot_92 : decode cX8_whyNot 92 = .ok (.iload_n 3, 1) := by decide +kernel
theorem dX8_whyNot_93 : decode cX8_whyNot 93 = .ok (.iaload, 1) := by decide +kernel
theorem dX8_whyNot_94 : decode cX8_whyNot 94 = .ok (.ifCond .lt 7, 3) := by decide +kernel
theorem dX8_whyNot_97 : decode cX8_whyNot 97 = .ok (.iconst 2, 1) := by decide +kernel
theorem dX8_whyNot_98 : decode cX8_whyNot 98 = .ok (.goto 23, 3) := by decide +kernel
theorem dX8_whyNot_101 : decode cX8_whyNot 101 = .ok (.aload_n 0, 1) := by decide +kernel
theorem dX8_whyNot_102 : decode cX8_whyNot 102 = .ok (.getfield 7, 3) := by decide +kernel
theorem dX8_whyNot_105 : decode cX8_whyNot 105 = .ok (.iload_n 2, 1) := by decide +kernel
theorem dX8_whyNot_106 : decode cX8_whyNot 106 = .ok (.iaload, 1) := by decide +kernel
theorem dX8_whyNot_107 : decode cX8_whyNot 107 = .ok (.aload_n 0, 1) := by decide +kernel
theorem dX8_whyNot_108 : decode cX8_whyNot 108 = .ok (.getfield 19, 3) := by decide +kernel
theorem dX8_whyNot_111 : decode cX8_whyNot 111 = .ok (.iload_n 3, 1) := by decide +kernel
theorem dX8_whyNot_112 : decode cX8_whyNot 112 = .ok (.iaload, 1) := by decide +kernel
theorem dX8_whyNot_113 : decode cX8_whyNot 113 = .ok (.if_icmp .ge 7, 3) := by decide +kernel
theorem dX8_whyNot_116 : decode cX8_whyNot 116 = .ok (.iconst 3, 1) := by decide +kernel
theorem dX8_whyNot_117 : decode cX8_whyNot 117 = .ok (.goto 4, 3) := by decide +kernel
theorem dX8_whyNot_120 : decode cX8_whyNot 120 = .ok (.iconst 0, 1) := by decide +kernel
theorem dX8_whyNot_121 : decode cX8_whyNot 121 = .ok (.ireturn, 1) := by decide +kernel
theorem dX8_whyNot_122 : decode cX8_whyNot 122 = .ok (.aload_n 0, 1) := by decide +kernel
theorem dX8_whyNot_123 : decode cX8_whyNot 123 = .ok (.iload_n 2, 1) := by decide +kernel
theorem dX8_whyNot_124 : decode cX8_whyNot 124 = .ok (.iload_n 3, 1) := by decide +kernel
theorem dX8_whyNot_125 : decode cX8_whyNot 125 = .ok (.invokevirtual 174, 3) := by decide +kernel
theorem dX8_whyNot_128 : decode cX8_whyNot 128 = .ok (.ireturn, 1) := by decide +kernel
theorem dX8_whyNot_129 : decode cX8_whyNot 129 = .ok (.aload_n 0, 1) := by decide +kernel
theorem dX8_whyNot_130 : decode cX8_whyNot 130 = .ok (.iload_n 2, 1) := by decide +kernel
theorem dX8_whyNot_131 : decode cX8_whyNot 131 = .ok (.iload_n 3, 1) := by decide +kernel
theorem dX8_whyNot_132 : decode cX8_whyNot 132 = .ok (.invokevirtual 177, 3) := by decide +kernel
theorem dX8_whyNot_135 : decode cX8_whyNot 135 = .ok (.ireturn, 1) := by decide +kernel
theorem dX8_whyNot_136 : decode cX8_whyNot 136 = .ok (.aload_n 0, 1) := by decide +kernel
theorem dX8_whyNot_137 : decode cX8_whyNot 137 = .ok (.getfield 98, 3) := by decide +kernel
theorem dX8_whyNot_140 : decode cX8_whyNot 140 = .ok (.iload_n 3, 1) := by decide +kernel
theorem dX8_whyNot_141 : decode cX8_whyNot 141 = .ok (.if_icmp .ge 7, 3) := by decide +kernel
theorem dX8_whyNot_144 : decode cX8_whyNot 144 = .ok (.iconst 3, 1) := by decide +kernel
theorem dX8_whyNot_145 : decode cX8_whyNot 145 = .ok (.goto 22, 3) := by decide +kernel
theorem dX8_whyNot_148 : decode cX8_whyNot 148 = .ok (.aload_n 0, 1) := by decide +kernel
theorem dX8_whyNot_149 : decode cX8_whyNot 149 = .ok (.getfield 7, 3) := by decide +kernel
theorem dX8_whyNot_152 : decode cX8_whyNot 152 = .ok (.iload_n 2, 1) := by decide +kernel
theorem dX8_whyNot_153 : decode cX8_whyNot 153 = .ok (.iaload, 1) := by decide +kernel
theorem dX8_whyNot_154 : decode cX8_whyNot 154 = .ok (.iload_n 3, 1) := by decide +kernel
theorem dX8_whyNot_155 : decode cX8_whyNot 155 = .ok (.iadd, 1) := by decide +kernel
theorem dX8_whyNot_156 : decode cX8_whyNot 156 = .ok (.sipush 9999, 3) := by decide +kernel
theorem dX8_whyNot_159 : decode cX8_whyNot 159 = .ok (.if_icmp .le 7, 3) := by decide +kernel
theorem dX8_whyNot_162 : decode cX8_whyNot 162 = .ok (.iconst 5, 1) := by decide +kernel
theorem dX8_whyNot_163 : decode cX8_whyNot 163 = .ok (.goto 4, 3) := by decide +kernel
theorem dX8_whyNot_166 : decode cX8_whyNot 166 = .ok (.iconst 0, 1) := by decide +kernel
theorem dX8_whyNot_167 : decode cX8_whyNot 167 = .ok (.ireturn, 1) := by decide +kernel
theorem dX8_whyNot_168 : decode cX8_whyNot 168 = .ok (.aload_n 0, 1) := by decide +kernel
theorem dX8_whyNot_169 : decode cX8_whyNot 169 = .ok (.getfield 180, 3) := by decide +kernel
theorem dX8_whyNot_172 : decode cX8_whyNot 172 = .ok (.bipush 99, 2) := by decide +kernel
theorem dX8_whyNot_174 : decode cX8_whyNot 174 = .ok (.if_icmp .ne 8, 3) := by decide +kernel
theorem dX8_whyNot_177 : decode cX8_whyNot 177 = .ok (.bipush 6, 2) := by decide +kernel
theorem dX8_whyNot_179 : decode cX8_whyNot 179 = .ok (.goto 4, 3) := by decide +kernel
theorem dX8_whyNot_182 : decode cX8_whyNot 182 = .ok (.iconst 0, 1) := by decide +kernel
theorem dX8_whyNot_183 : decode cX8_whyNot 183 = .ok (.ireturn, 1) := by decide +kernel
theorem dX8_swap_0 : decode cX8_swap 0 = .ok (.aload_n 0, 1) := by decide +kernel
theorem dX8_swap_1 : decode cX8_swap 1 = .ok (.getfield 13, 3) := by decide +kernel
theorem dX8_swap_4 : decode cX8_swap 4 = .ok (.iload_n 1, 1) := by decide +kernel
theorem dX8_swap_5 : decode cX8_swap 5 = .ok (.dup2, 1) := by decide +kernel
theorem dX8_swap_6 : decode cX8_swap 6 = .ok (.iaload, 1) := by decide +kernel
theorem dX8_swap_7 : decode cX8_swap 7 = .ok (.aload_n 0, 1) := by decide +kernel
theorem dX8_swap_8 : decode cX8_swap 8 = .ok (.iload_n 2, 1) := by decide +kernel
theorem dX8_swap_9 : decode cX8_swap 9 = .ok (.invokevirtual 167, 3) := by decide +kernel
theorem dX8_swap_12 : decode cX8_swap 12 = .ok (.iadd, 1) := by decide +kernel
theorem dX8_swap_13 : decode cX8_swap 13 = .ok (.iastore, 1) := by decide +kernel
theorem dX8_swap_14 : decode cX8_swap 14 = .ok (.aload_n 0, 1) := by decide +kernel
theorem dX8_swap_15 : decode cX8_swap 15 = .ok (.getfield 7, 3) := by decide +kernel
theorem dX8_swap_18 : decode cX8_swap 18 = .ok (.iload_n 1, 1) := by decide +kernel
theorem dX8_swap_19 : decode cX8_swap 19 = .ok (.dup2, 1) := by decide +kernel
theorem dX8_swap_20 : decode cX8_swap 20 = .ok (.iaload, 1) := by decide +kernel
theorem dX8_swap_21 : decode cX8_swap 21 = .ok (.iload_n 2, 1) := by decide +kernel
theorem dX8_swap_22 : decode cX8_swap 22 = .ok (.isub, 1) := by decide +kernel
theorem dX8_swap_23 : decode cX8_swap 23 = .ok (.iastore, 1) := by decide +kernel
theorem dX8_swap_24 : decode cX8_swap 24 = .ok (.aload_n 0, 1) := by decide +kernel
theorem dX8_swap_25 : decode cX8_swap 25 = .ok (.dup, 1) := by decide +kernel
theorem dX8_swap_26 : decode cX8_swap 26 = .ok (.getfield 98, 3) := by decide +kernel
theorem dX8_swap_29 : decode cX8_swap 29 = .ok (.iload_n 2, 1) := by decide +kernel
theorem dX8_swap_30 : decode cX8_swap 30 = .ok (.iadd, 1) := by decide +kernel
theorem dX8_swap_31 : decode cX8_swap 31 = .ok (.putfield 98, 3) := by decide +kernel
theorem dX8_swap_34 : decode cX8_swap 34 = .ok (.return_, 1) := by decide +kernel
theorem dX8_pay_0 : decode cX8_pay 0 = .ok (.aload_n 0, 1) := by decide +kernel
theorem dX8_pay_1 : decode cX8_pay 1 = .ok (.iload_n 1, 1) := by decide +kernel
theorem dX8_pay_2 : decode cX8_pay 2 = .ok (.iload_n 2, 1) := by decide +kernel
theorem dX8_pay_3 : decode cX8_pay 3 = .ok (.invokevirtual 171, 3) := by decide +kernel
theorem dX8_pay_6 : decode cX8_pay 6 = .ok (.istore_n 3, 1) := by decide +kernel
theorem dX8_pay_7 : decode cX8_pay 7 = .ok (.aload_n 0, 1) := by decide +kernel
theorem dX8_pay_8 : decode cX8_pay 8 = .ok (.getfield 16, 3) := by decide +kernel
theorem dX8_pay_11 : decode cX8_pay 11 = .ok (.bipush 6, 2) := by decide +kernel
theorem dX8_pay_13 : decode cX8_pay 13 = .ok (.iload_n 1, 1) := by decide +kernel
theorem dX8_pay_14 : decode cX8_pay 14 = .ok (.imul, 1) := by decide +kernel
theorem dX8_pay_15 : decode cX8_pay 15 = .ok (.iload_n 2, 1) := by decide +kernel
theorem dX8_pay_16 : decode cX8_pay 16 = .ok (.iadd, 1) := by decide +kernel
theorem dX8_pay_17 : decode cX8_pay 17 = .ok (.dup2, 1) := by decide +kernel
theorem dX8_pay_18 : decode cX8_pay 18 = .ok (.iaload, 1) := by decide +kernel
theorem dX8_pay_19 : decode cX8_pay 19 = .ok (.iload_n 3, 1) := by decide +kernel
theorem dX8_pay_20 : decode cX8_pay 20 = .ok (.isub, 1) := by decide +kernel
theorem dX8_pay_21 : decode cX8_pay 21 = .ok (.iastore, 1) := by decide +kernel
theorem dX8_pay_22 : decode cX8_pay 22 = .ok (.aload_n 0, 1) := by decide +kernel
theorem dX8_pay_23 : decode cX8_pay 23 = .ok (.getfield 7, 3) := by decide +kernel
theorem dX8_pay_26 : decode cX8_pay 26 = .ok (.iload_n 1, 1) := by decide +kernel
theorem dX8_pay_27 : decode cX8_pay 27 = .ok (.dup2, 1) := by decide +kernel
theorem dX8_pay_28 : decode cX8_pay 28 = .ok (.iaload, 1) := by decide +kernel
theorem dX8_pay_29 : decode cX8_pay 29 = .ok (.iload_n 3, 1) := by decide +kernel
theorem dX8_pay_30 : decode cX8_pay 30 = .ok (.isub, 1) := by decide +kernel
theorem dX8_pay_31 : decode cX8_pay 31 = .ok (.iastore, 1) := by decide +kernel
theorem dX8_pay_32 : decode cX8_pay 32 = .ok (.aload_n 0, 1) := by decide +kernel
theorem dX8_pay_33 : decode cX8_pay 33 = .ok (.getfield 7, 3) := by decide +kernel
theorem dX8_pay_36 : decode cX8_pay 36 = .ok (.iload_n 2, 1) := by decide +kernel
theorem dX8_pay_37 : decode cX8_pay 37 = .ok (.dup2, 1) := by decide +kernel
theorem dX8_pay_38 : decode cX8_pay 38 = .ok (.iaload, 1) := by decide +kernel
theorem dX8_pay_39 : decode cX8_pay 39 = .ok (.iload_n 3, 1) := by decide +kernel
theorem dX8_pay_40 : decode cX8_pay 40 = .ok (.iadd, 1) := by decide +kernel
theorem dX8_pay_41 : decode cX8_pay 41 = .ok (.iastore, 1) := by decide +kernel
theorem dX8_pay_42 : decode cX8_pay 42 = .ok (.return_, 1) := by decide +kernel
theorem dX8_buy_0 : decode cX8_buy 0 = .ok (.aload_n 0, 1) := by decide +kernel
theorem dX8_buy_1 : decode cX8_buy 1 = .ok (.getfield 22, 3) := by decide +kernel
theorem dX8_buy_4 : decode cX8_buy 4 = .ok (.iload_n 2, 1) := by decide +kernel
theorem dX8_buy_5 : decode cX8_buy 5 = .ok (.iload_n 1, 1) := by decide +kernel
theorem dX8_buy_6 : decode cX8_buy 6 = .ok (.iastore, 1) := by decide +kernel
theorem dX8_buy_7 : decode cX8_buy 7 = .ok (.aload_n 0, 1) := by decide +kernel
theorem dX8_buy_8 : decode cX8_buy 8 = .ok (.getfield 7, 3) := by decide +kernel
theorem dX8_buy_11 : decode cX8_buy 11 = .ok (.iload_n 1, 1) := by decide +kernel
theorem dX8_buy_12 : decode cX8_buy 12 = .ok (.dup2, 1) := by decide +kernel
theorem dX8_buy_13 : decode cX8_buy 13 = .ok (.iaload, 1) := by decide +kernel
theorem dX8_buy_14 : decode cX8_buy 14 = .ok (.aload_n 0, 1) := by decide +kernel
theorem dX8_buy_15 : decode cX8_buy 15 = .ok (.getfield 19, 3) := by decide +kernel
theorem dX8_buy_18 : decode cX8_buy 18 = .ok (.iload_n 2, 1) := by decide +kernel
theorem dX8_buy_19 : decode cX8_buy 19 = .ok (.iaload, 1) := by decide +kernel
theorem dX8_buy_20 : decode cX8_buy 20 = .ok (.isub, 1) := by decide +kernel
theorem dX8_buy_21 : decode cX8_buy 21 = .ok (.iastore, 1) := by decide +kernel
theorem dX8_buy_22 : decode cX8_buy 22 = .ok (.aload_n 0, 1) := by decide +kernel
theorem dX8_buy_23 : decode cX8_buy 23 = .ok (.dup, 1) := by decide +kernel
theorem dX8_buy_24 : decode cX8_buy 24 = .ok (.getfield 183, 3) := by decide +kernel
theorem dX8_buy_27 : decode cX8_buy 27 = .ok (.aload_n 0, 1) := by decide +kernel
theorem dX8_buy_28 : decode cX8_buy 28 = .ok (.getfield 19, 3) := by decide +kernel
theorem dX8_buy_31 : decode cX8_buy 31 = .ok (.iload_n 2, 1) := by decide +kernel
theorem dX8_buy_32 : decode cX8_buy 32 = .ok (.iaload, 1) := by decide +kernel
theorem dX8_buy_33 : decode cX8_buy 33 = .ok (.iadd, 1) := by decide +kernel
theorem dX8_buy_34 : decode cX8_buy 34 = .ok (.putfield 183, 3) := by decide +kernel
theorem dX8_buy_37 : decode cX8_buy 37 = .ok (.return_, 1) := by decide +kernel
theorem dX8_happen_0 : decode cX8_happen 0 = .ok (.iload_n 1, 1) := by decide +kernel
theorem dX8_happen_1 : decode cX8_happen 1 = .ok (.tableswitch 125 0 5 #[39, 52, 75, 84, 93, 102], 39) := by decide +kernel
theorem dX8_happen_40 : decode cX8_happen 40 = .ok (.aload_n 0, 1) := by decide +kernel
theorem dX8_happen_41 : decode cX8_happen 41 = .ok (.dup, 1) := by decide +kernel
theorem dX8_happen_42 : decode cX8_happen 42 = .ok (.getfield 98, 3) := by decide +kernel
theorem dX8_happen_45 : decode cX8_happen 45 = .ok (.iload_n 3, 1) := by decide +kernel
theorem dX8_happen_46 : decode cX8_happen 46 = .ok (.iadd, 1) := by decide +kernel
theorem dX8_happen_47 : decode cX8_happen 47 = .ok (.putfield 98, 3) := by decide +kernel
theorem dX8_happen_50 : decode cX8_happen 50 = .ok (.goto 86, 3) := by decide +kernel
theorem dX8_happen_53 : decode cX8_happen 53 = .ok (.aload_n 0, 1) := by decide +kernel
theorem dX8_happen_54 : decode cX8_happen 54 = .ok (.getfield 7, 3) := by decide +kernel
theorem dX8_happen_57 : decode cX8_happen 57 = .ok (.iload_n 2, 1) := by decide +kernel
theorem dX8_happen_58 : decode cX8_happen 58 = .ok (.dup2, 1) := by decide +kernel
theorem dX8_happen_59 : decode cX8_happen 59 = .ok (.iaload, 1) := by decide +kernel
theorem dX8_happen_60 : decode cX8_happen 60 = .ok (.iload_n 3, 1) := by decide +kernel
theorem dX8_happen_61 : decode cX8_happen 61 = .ok (.iadd, 1) := by decide +kernel
theorem dX8_happen_62 : decode cX8_happen 62 = .ok (.iastore, 1) := by decide +kernel
theorem dX8_happen_63 : decode cX8_happen 63 = .ok (.aload_n 0, 1) := by decide +kernel
theorem dX8_happen_64 : decode cX8_happen 64 = .ok (.dup, 1) := by decide +kernel
theorem dX8_happen_65 : decode cX8_happen 65 = .ok (.getfield 102, 3) := by decide +kernel
theorem dX8_happen_68 : decode cX8_happen 68 = .ok (.iload_n 3, 1) := by decide +kernel
theorem dX8_happen_69 : decode cX8_happen 69 = .ok (.iadd, 1) := by decide +kernel
theorem dX8_happen_70 : decode cX8_happen 70 = .ok (.putfield 102, 3) := by decide +kernel
theorem dX8_happen_73 : decode cX8_happen 73 = .ok (.goto 63, 3) := by decide +kernel
theorem dX8_happen_76 : decode cX8_happen 76 = .ok (.aload_n 0, 1) := by decide +kernel
theorem dX8_happen_77 : decode cX8_happen 77 = .ok (.iload_n 2, 1) := by decide +kernel
theorem dX8_happen_78 : decode cX8_happen 78 = .ok (.iload_n 3, 1) := by decide +kernel
theorem dX8_happen_79 : decode cX8_happen 79 = .ok (.invokevirtual 186, 3) := by decide +kernel
theorem dX8_happen_82 : decode cX8_happen 82 = .ok (.goto 54, 3) := by decide +kernel
theorem dX8_happen_85 : decode cX8_happen 85 = .ok (.aload_n 0, 1) := by decide +kernel
theorem dX8_happen_86 : decode cX8_happen 86 = .ok (.iload_n 2, 1) := by decide +kernel
theorem dX8_happen_87 : decode cX8_happen 87 = .ok (.iload_n 3, 1) := by decide +kernel
theorem dX8_happen_88 : decode cX8_happen 88 = .ok (.invokevirtual 190, 3) := by decide +kernel
theorem dX8_happen_91 : decode cX8_happen 91 = .ok (.goto 45, 3) := by decide +kernel
theorem dX8_happen_94 : decode cX8_happen 94 = .ok (.aload_n 0, 1) := by decide +kernel
theorem dX8_happen_95 : decode cX8_happen 95 = .ok (.iload_n 2, 1) := by decide +kernel
theorem dX8_happen_96 : decode cX8_happen 96 = .ok (.iload_n 3, 1) := by decide +kernel
theorem dX8_happen_97 : decode cX8_happen 97 = .ok (.invokevirtual 193, 3) := by decide +kernel
theorem dX8_happen_100 : decode cX8_happen 100 = .ok (.goto 36, 3) := by decide +kernel
theorem dX8_happen_103 : decode cX8_happen 103 = .ok (.aload_n 0, 1) := by decide +kernel
theorem dX8_happen_104 : decode cX8_happen 104 = .ok (.dup, 1) := by decide +kernel
theorem dX8_happen_105 : decode cX8_happen 105 = .ok (.getfield 98, 3) := by decide +kernel
theorem dX8_happen_108 : decode cX8_happen 108 = .ok (.iload_n 3, 1) := by decide +kernel
theorem dX8_happen_109 : decode cX8_happen 109 = .ok (.isub, 1) := by decide +kernel
theorem dX8_happen_110 : decode cX8_happen 110 = .ok (.putfield 98, 3) := by decide +kernel
theorem dX8_happen_113 : decode cX8_happen 113 = .ok (.aload_n 0, 1) := by decide +kernel
theorem dX8_happen_114 : decode cX8_happen 114 = .ok (.getfield 7, 3) := by decide +kernel
theorem dX8_happen_117 : decode cX8_happen 117 = .ok (.iload_n 2, 1) := by decide +kernel
theorem dX8_happen_118 : decode cX8_happen 118 = .ok (.dup2, 1) := by decide +kernel
theorem dX8_happen_119 : decode cX8_happen 119 = .ok (.iaload, 1) := by decide +kernel
theorem dX8_happen_120 : decode cX8_happen 120 = .ok (.iload_n 3, 1) := by decide +kernel
theorem dX8_happen_121 : decode cX8_happen 121 = .ok (.iadd, 1) := by decide +kernel
theorem dX8_happen_122 : decode cX8_happen 122 = .ok (.iastore, 1) := by decide +kernel
theorem dX8_happen_123 : decode cX8_happen 123 = .ok (.goto 13, 3) := by decide +kernel
theorem dX8_happen_126 : decode cX8_happen 126 = .ok (.aload_n 0, 1) := by decide +kernel
theorem dX8_happen_127 : decode cX8_happen 127 = .ok (.dup, 1) := by decide +kernel
theorem dX8_happen_128 : decode cX8_happen 128 = .ok (.getfield 180, 3) := by decide +kernel
theorem dX8_happen_131 : decode cX8_happen 131 = .ok (.iconst 1, 1) := by decide +kernel
theorem dX8_happen_132 : decode cX8_happen 132 = .ok (.iadd, 1) := by decide +kernel
theorem dX8_happen_133 : decode cX8_happen 133 = .ok (.putfield 180, 3) := by decide +kernel
theorem dX8_happen_136 : decode cX8_happen 136 = .ok (.return_, 1) := by decide +kernel
theorem dX8_keepNow_0 : decode cX8_keepNow 0 = .ok (.iconst 0, 1) := by decide +kernel
theorem dX8_keepNow_1 : decode cX8_keepNow 1 = .ok (.istore_n 1, 1) := by decide +kernel
theorem dX8_keepNow_2 : decode cX8_keepNow 2 = .ok (.iload_n 1, 1) := by decide +kernel
theorem dX8_keepNow_3 : decode cX8_keepNow 3 = .ok (.bipush 6, 2) := by decide +kernel
theorem dX8_keepNow_5 : decode cX8_keepNow 5 = .ok (.if_icmp .ge 36, 3) := by decide +kernel
theorem dX8_keepNow_8 : decode cX8_keepNow 8 = .ok (.aload_n 0, 1) := by decide +kernel
theorem dX8_keepNow_9 : decode cX8_keepNow 9 = .ok (.getfield 46, 3) := by decide +kernel
theorem dX8_keepNow_12 : decode cX8_keepNow 12 = .ok (.iload_n 1, 1) := by decide +kernel
theorem dX8_keepNow_13 : decode cX8_keepNow 13 = .ok (.aload_n 0, 1) := by decide +kernel
theorem dX8_keepNow_14 : decode cX8_keepNow 14 = .ok (.getfield 7, 3) := by decide +kernel
theorem dX8_keepNow_17 : decode cX8_keepNow 17 = .ok (.iload_n 1, 1) := by decide +kernel
theorem dX8_keepNow_18 : decode cX8_keepNow 18 = .ok (.iaload, 1) := by decide +kernel
theorem dX8_keepNow_19 : decode cX8_keepNow 19 = .ok (.iastore, 1) := by decide +kernel
theorem dX8_keepNow_20 : decode cX8_keepNow 20 = .ok (.aload_n 0, 1) := by decide +kernel
theorem dX8_keepNow_21 : decode cX8_keepNow 21 = .ok (.getfield 46, 3) := by decide +kernel
theorem dX8_keepNow_24 : decode cX8_keepNow 24 = .ok (.bipush 6, 2) := by decide +kernel
theorem dX8_keepNow_26 : decode cX8_keepNow 26 = .ok (.iload_n 1, 1) := by decide +kernel
theorem dX8_keepNow_27 : decode cX8_keepNow 27 = .ok (.iadd, 1) := by decide +kernel
theorem dX8_keepNow_28 : decode cX8_keepNow 28 = .ok (.aload_n 0, 1) := by decide +kernel
theorem dX8_keepNow_29 : decode cX8_keepNow 29 = .ok (.getfield 13, 3) := by decide +kernel
theorem dX8_keepNow_32 : decode cX8_keepNow 32 = .ok (.iload_n 1, 1) := by decide +kernel
theorem dX8_keepNow_33 : decode cX8_keepNow 33 = .ok (.iaload, 1) := by decide +kernel
theorem dX8_keepNow_34 : decode cX8_keepNow 34 = .ok (.iastore, 1) := by decide +kernel
theorem dX8_keepNow_35 : decode cX8_keepNow 35 = .ok (.iinc 1 1, 3) := by decide +kernel
theorem dX8_keepNow_38 : decode cX8_keepNow 38 = .ok (.goto (-36), 3) := by decide +kernel
theorem dX8_keepNow_41 : decode cX8_keepNow 41 = .ok (.iconst 0, 1) := by decide +kernel
theorem dX8_keepNow_42 : decode cX8_keepNow 42 = .ok (.istore_n 1, 1) := by decide +kernel
theorem dX8_keepNow_43 : decode cX8_keepNow 43 = .ok (.iload_n 1, 1) := by decide +kernel
theorem dX8_keepNow_44 : decode cX8_keepNow 44 = .ok (.bipush 36, 2) := by decide +kernel
theorem dX8_keepNow_46 : decode cX8_keepNow 46 = .ok (.if_icmp .ge 24, 3) := by decide +kernel
theorem dX8_keepNow_49 : decode cX8_keepNow 49 = .ok (.aload_n 0, 1) := by decide +kernel
theorem dX8_keepNow_50 : decode cX8_keepNow 50 = .ok (.getfield 46, 3) := by decide +kernel
theorem dX8_keepNow_53 : decode cX8_keepNow 53 = .ok (.bipush 12, 2) := by decide +kernel
theorem dX8_keepNow_55 : decode cX8_keepNow 55 = .ok (.iload_n 1, 1) := by decide +kernel
theorem dX8_keepNow_56 : decode cX8_keepNow 56 = .ok (.iadd, 1) := by decide +kernel
theorem dX8_keepNow_57 : decode cX8_keepNow 57 = .ok (.aload_n 0, 1) := by decide +kernel
theorem dX8_keepNow_58 : decode cX8_keepNow 58 = .ok (.getfield 16, 3) := by decide +kernel
theorem dX8_keepNow_61 : decode cX8_keepNow 61 = .ok (.iload_n 1, 1) := by decide +kernel
theorem dX8_keepNow_62 : decode cX8_keepNow 62 = .ok (.iaload, 1) := by decide +kernel
theorem dX8_keepNow_63 : decode cX8_keepNow 63 = .ok (.iastore, 1) := by decide +kernel
theorem dX8_keepNow_64 : decode cX8_keepNow 64 = .ok (.iinc 1 1, 3) := by decide +kernel
theorem dX8_keepNow_67 : decode cX8_keepNow 67 = .ok (.goto (-24), 3) := by decide +kernel
theorem dX8_keepNow_70 : decode cX8_keepNow 70 = .ok (.iconst 0, 1) := by decide +kernel
theorem dX8_keepNow_71 : decode cX8_keepNow 71 = .ok (.istore_n 1, 1) := by decide +kernel
theorem dX8_keepNow_72 : decode cX8_keepNow 72 = .ok (.iload_n 1, 1) := by decide +kernel
theorem dX8_keepNow_73 : decode cX8_keepNow 73 = .ok (.bipush 8, 2) := by decide +kernel
theorem dX8_keepNow_75 : decode cX8_keepNow 75 = .ok (.if_icmp .ge 24, 3) := by decide +kernel
theorem dX8_keepNow_78 : decode cX8_keepNow 78 = .ok (.aload_n 0, 1) := by decide +kernel
theorem dX8_keepNow_79 : decode cX8_keepNow 79 = .ok (.getfield 46, 3) := by decide +kernel
theorem dX8_keepNow_82 : decode cX8_keepNow 82 = .ok (.bipush 48, 2) := by decide +kernel
theorem dX8_keepNow_84 : decode cX8_keepNow 84 = .ok (.iload_n 1, 1) := by decide +kernel
theorem dX8_keepNow_85 : decode cX8_keepNow 85 = .ok (.iadd, 1) := by decide +kernel
theorem dX8_keepNow_86 : decode cX8_keepNow 86 = .ok (.aload_n 0, 1) := by decide +kernel
theorem dX8_keepNow_87 : decode cX8_keepNow 87 = .ok (.getfield 22, 3) := by decide +kernel
theorem dX8_keepNow_90 : decode cX8_keepNow 90 = .ok (.iload_n 1, 1) := by decide +kernel
theorem dX8_keepNow_91 : decode cX8_keepNow 91 = .ok (.iaload, 1) := by decide +kernel
theorem dX8_keepNow_92 : decode cX8_keepNow 92 = .ok (.iastore, 1) := by decide +kernel
theorem dX8_keepNow_93 : decode cX8_keepNow 93 = .ok (.iinc 1 1, 3) := by decide +kernel
theorem dX8_keepNow_96 : decode cX8_keepNow 96 = .ok (.goto (-24), 3) := by decide +kernel
theorem dX8_keepNow_99 : decode cX8_keepNow 99 = .ok (.aload_n 0, 1) := by decide +kernel
theorem dX8_keepNow_100 : decode cX8_keepNow 100 = .ok (.getfield 46, 3) := by decide +kernel
theorem dX8_keepNow_103 : decode cX8_keepNow 103 = .ok (.bipush 56, 2) := by decide +kernel
theorem dX8_keepNow_105 : decode cX8_keepNow 105 = .ok (.aload_n 0, 1) := by decide +kernel
theorem dX8_keepNow_106 : decode cX8_keepNow 106 = .ok (.getfield 98, 3) := by decide +kernel
theorem dX8_keepNow_109 : decode cX8_keepNow 109 = .ok (.iastore, 1) := by decide +kernel
theorem dX8_keepNow_110 : decode cX8_keepNow 110 = .ok (.aload_n 0, 1) := by decide +kernel
theorem dX8_keepNow_111 : decode cX8_keepNow 111 = .ok (.getfield 46, 3) := by decide +kernel
theorem dX8_keepNow_114 : decode cX8_keepNow 114 = .ok (.bipush 57, 2) := by decide +kernel
theorem dX8_keepNow_116 : decode cX8_keepNow 116 = .ok (.aload_n 0, 1) := by decide +kernel
theorem dX8_keepNow_117 : decode cX8_keepNow 117 = .ok (.getfield 102, 3) := by decide +kernel
theorem dX8_keepNow_120 : decode cX8_keepNow 120 = .ok (.iastore, 1) := by decide +kernel
theorem dX8_keepNow_121 : decode cX8_keepNow 121 = .ok (.aload_n 0, 1) := by decide +kernel
theorem dX8_keepNow_122 : decode cX8_keepNow 122 = .ok (.getfield 46, 3) := by decide +kernel
theorem dX8_keepNow_125 : decode cX8_keepNow 125 = .ok (.bipush 58, 2) := by decide +kernel
theorem dX8_keepNow_127 : decode cX8_keepNow 127 = .ok (.aload_n 0, 1) := by decide +kernel
theorem dX8_keepNow_128 : decode cX8_keepNow 128 = .ok (.getfield 183, 3) := by decide +kernel
theorem dX8_keepNow_131 : decode cX8_keepNow 131 = .ok (.iastore, 1) := by decide +kernel
theorem dX8_keepNow_132 : decode cX8_keepNow 132 = .ok (.aload_n 0, 1) := by decide +kernel
theorem dX8_keepNow_133 : decode cX8_keepNow 133 = .ok (.getfield 46, 3) := by decide +kernel
theorem dX8_keepNow_136 : decode cX8_keepNow 136 = .ok (.bipush 59, 2) := by decide +kernel
theorem dX8_keepNow_138 : decode cX8_keepNow 138 = .ok (.aload_n 0, 1) := by decide +kernel
theorem dX8_keepNow_139 : decode cX8_keepNow 139 = .ok (.getfield 180, 3) := by decide +kernel
theorem dX8_keepNow_142 : decode cX8_keepNow 142 = .ok (.iastore, 1) := by decide +kernel
theorem dX8_keepNow_143 : decode cX8_keepNow 143 = .ok (.return_, 1) := by decide +kernel
theorem dX8_back_0 : decode cX8_back 0 = .ok (.iconst 0, 1) := by decide +kernel
theorem dX8_back_1 : decode cX8_back 1 = .ok (.istore_n 2, 1) := by decide +kernel
theorem dX8_back_2 : decode cX8_back 2 = .ok (.iload_n 2, 1) := by decide +kernel
theorem dX8_back_3 : decode cX8_back 3 = .ok (.bipush 6, 2) := by decide +kernel
theorem dX8_back_5 : decode cX8_back 5 = .ok (.if_icmp .ge 36, 3) := by decide +kernel
theorem dX8_back_8 : decode cX8_back 8 = .ok (.aload_n 0, 1) := by decide +kernel
theorem dX8_back_9 : decode cX8_back 9 = .ok (.getfield 7, 3) := by decide +kernel
theorem dX8_back_12 : decode cX8_back 12 = .ok (.iload_n 2, 1) := by decide +kernel
theorem dX8_back_13 : decode cX8_back 13 = .ok (.aload_n 0, 1) := by decide +kernel
theorem dX8_back_14 : decode cX8_back 14 = .ok (.getfield 46, 3) := by decide +kernel
theorem dX8_back_17 : decode cX8_back 17 = .ok (.iload_n 2, 1) := by decide +kernel
theorem dX8_back_18 : decode cX8_back 18 = .ok (.iaload, 1) := by decide +kernel
theorem dX8_back_19 : decode cX8_back 19 = .ok (.iastore, 1) := by decide +kernel
theorem dX8_back_20 : decode cX8_back 20 = .ok (.aload_n 0, 1) := by decide +kernel
theorem dX8_back_21 : decode cX8_back 21 = .ok (.getfield 13, 3) := by decide +kernel
theorem dX8_back_24 : decode cX8_back 24 = .ok (.iload_n 2, 1) := by decide +kernel
theorem dX8_back_25 : decode cX8_back 25 = .ok (.aload_n 0, 1) := by decide +kernel
theorem dX8_back_26 : decode cX8_back 26 = .ok (.getfield 46, 3) := by decide +kernel
theorem dX8_back_29 : decode cX8_back 29 = .ok (.bipush 6, 2) := by decide +kernel
theorem dX8_back_31 : decode cX8_back 31 = .ok (.iload_n 2, 1) := by decide +kernel
theorem dX8_back_32 : decode cX8_back 32 = .ok (.iadd, 1) := by decide +kernel
theorem dX8_back_33 : decode cX8_back 33 = .ok (.iaload, 1) := by decide +kernel
theorem dX8_back_34 : decode cX8_back 34 = .ok (.iastore, 1) := by decide +kernel
theorem dX8_back_35 : decode cX8_back 35 = .ok (.iinc 2 1, 3) := by decide +kernel
theorem dX8_back_38 : decode cX8_back 38 = .ok (.goto (-36), 3) := by decide +kernel
theorem dX8_back_41 : decode cX8_back 41 = .ok (.iconst 0, 1) := by decide +kernel
theorem dX8_back_42 : decode cX8_back 42 = .ok (.istore_n 2, 1) := by decide +kernel
theorem dX8_back_43 : decode cX8_back 43 = .ok (.iload_n 2, 1) := by decide +kernel
theorem dX8_back_44 : decode cX8_back 44 = .ok (.bipush 36, 2) := by decide +kernel
theorem dX8_back_46 : decode cX8_back 46 = .ok (.if_icmp .ge 24, 3) := by decide +kernel
theorem dX8_back_49 : decode cX8_back 49 = .ok (.aload_n 0, 1) := by decide +kernel
theorem dX8_back_50 : decode cX8_back 50 = .ok (.getfield 16, 3) := by decide +kernel
theorem dX8_back_53 : decode cX8_back 53 = .ok (.iload_n 2, 1) := by decide +kernel
theorem dX8_back_54 : decode cX8_back 54 = .ok (.aload_n 0, 1) := by decide +kernel
theorem dX8_back_55 : decode cX8_back 55 = .ok (.getfield 46, 3) := by decide +kernel
theorem dX8_back_58 : decode cX8_back 58 = .ok (.bipush 12, 2) := by decide +kernel
theorem dX8_back_60 : decode cX8_back 60 = .ok (.iload_n 2, 1) := by decide +kernel
theorem dX8_back_61 : decode cX8_back 61 = .ok (.iadd, 1) := by decide +kernel
theorem dX8_back_62 : decode cX8_back 62 = .ok (.iaload, 1) := by decide +kernel
theorem dX8_back_63 : decode cX8_back 63 = .ok (.iastore, 1) := by decide +kernel
theorem dX8_back_64 : decode cX8_back 64 = .ok (.iinc 2 1, 3) := by decide +kernel
theorem dX8_back_67 : decode cX8_back 67 = .ok (.goto (-24), 3) := by decide +kernel
theorem dX8_back_70 : decode cX8_back 70 = .ok (.iconst 0, 1) := by decide +kernel
theorem dX8_back_71 : decode cX8_back 71 = .ok (.istore_n 2, 1) := by decide +kernel
theorem dX8_back_72 : decode cX8_back 72 = .ok (.iload_n 2, 1) := by decide +kernel
theorem dX8_back_73 : decode cX8_back 73 = .ok (.bipush 8, 2) := by decide +kernel
theorem dX8_back_75 : decode cX8_back 75 = .ok (.if_icmp .ge 24, 3) := by decide +kernel
theorem dX8_back_78 : decode cX8_back 78 = .ok (.aload_n 0, 1) := by decide +kernel
theorem dX8_back_79 : decode cX8_back 79 = .ok (.getfield 22, 3) := by decide +kernel
theorem dX8_back_82 : decode cX8_back 82 = .ok (.iload_n 2, 1) := by decide +kernel
theorem dX8_back_83 : decode cX8_back 83 = .ok (.aload_n 0, 1) := by decide +kernel
theorem dX8_back_84 : decode cX8_back 84 = .ok (.getfield 46, 3) := by decide +kernel
theorem dX8_back_87 : decode cX8_back 87 = .ok (.bipush 48, 2) := by decide +kernel
theorem dX8_back_89 : decode cX8_back 89 = .ok (.iload_n 2, 1) := by decide +kernel
theorem dX8_back_90 : decode cX8_back 90 = .ok (.iadd, 1) := by decide +kernel
theorem dX8_back_91 : decode cX8_back 91 = .ok (.iaload, 1) := by decide +kernel
theorem dX8_back_92 : decode cX8_back 92 = .ok (.iastore, 1) := by decide +kernel
theorem dX8_back_93 : decode cX8_back 93 = .ok (.iinc 2 1, 3) := by decide +kernel
theorem dX8_back_96 : decode cX8_back 96 = .ok (.goto (-24), 3) := by decide +kernel
theorem dX8_back_99 : decode cX8_back 99 = .ok (.aload_n 0, 1) := by decide +kernel
theorem dX8_back_100 : decode cX8_back 100 = .ok (.aload_n 0, 1) := by decide +kernel
theorem dX8_back_101 : decode cX8_back 101 = .ok (.getfield 46, 3) := by decide +kernel
theorem dX8_back_104 : decode cX8_back 104 = .ok (.bipush 56, 2) := by decide +kernel
theorem dX8_back_106 : decode cX8_back 106 = .ok (.iaload, 1) := by decide +kernel
theorem dX8_back_107 : decode cX8_back 107 = .ok (.putfield 98, 3) := by decide +kernel
theorem dX8_back_110 : decode cX8_back 110 = .ok (.aload_n 0, 1) := by decide +kernel
theorem dX8_back_111 : decode cX8_back 111 = .ok (.aload_n 0, 1) := by decide +kernel
theorem dX8_back_112 : decode cX8_back 112 = .ok (.getfield 46, 3) := by decide +kernel
theorem dX8_back_115 : decode cX8_back 115 = .ok (.bipush 57, 2) := by decide +kernel
theorem dX8_back_117 : decode cX8_back 117 = .ok (.iaload, 1) := by decide +kernel
theorem dX8_back_118 : decode cX8_back 118 = .ok (.putfield 102, 3) := by decide +kernel
theorem dX8_back_121 : decode cX8_back 121 = .ok (.aload_n 0, 1) := by decide +kernel
theorem dX8_back_122 : decode cX8_back 122 = .ok (.aload_n 0, 1) := by decide +kernel
theorem dX8_back_123 : decode cX8_back 123 = .ok (.getfield 46, 3) := by decide +kernel
theorem dX8_back_126 : decode cX8_back 126 = .ok (.bipush 58, 2) := by decide +kernel
theorem dX8_back_128 : decode cX8_back 128 = .ok (.iaload, 1) := by decide +kernel
theorem dX8_back_129 : decode cX8_back 129 = .ok (.putfield 183, 3) := by decide +kernel
theorem dX8_back_132 : decode cX8_back 132 = .ok (.aload_n 0, 1) := by decide +kernel
theorem dX8_back_133 : decode cX8_back 133 = .ok (.aload_n 0, 1) := by decide +kernel
theorem dX8_back_134 : decode cX8_back 134 = .ok (.getfield 46, 3) := by decide +kernel
theorem dX8_back_137 : decode cX8_back 137 = .ok (.bipush 59, 2) := by decide +kernel
theorem dX8_back_139 : decode cX8_back 139 = .ok (.iaload, 1) := by decide +kernel
theorem dX8_back_140 : decode cX8_back 140 = .ok (.putfield 180, 3) := by decide +kernel
theorem dX8_back_143 : decode cX8_back 143 = .ok (.iload_n 1, 1) := by decide +kernel
theorem dX8_back_144 : decode cX8_back 144 = .ok (.ireturn, 1) := by decide +kernel
theorem dX8_goMonths_0 : decode cX8_goMonths 0 = .ok (.aload_n 0, 1) := by decide +kernel
theorem dX8_goMonths_1 : decode cX8_goMonths 1 = .ok (.bipush (-6), 2) := by decide +kernel
theorem dX8_goMonths_3 : decode cX8_goMonths 3 = .ok (.putfield 196, 3) := by decide +kernel
theorem dX8_goMonths_6 : decode cX8_goMonths 6 = .ok (.aload_n 0, 1) := by decide +kernel
theorem dX8_goMonths_7 : decode cX8_goMonths 7 = .ok (.bipush (-6), 2) := by decide +kernel
theorem dX8_goMonths_9 : decode cX8_goMonths 9 = .ok (.putfield 199, 3) := by decide +kernel
theorem dX8_goMonths_12 : decode cX8_goMonths 12 = .ok (.aload_n 0, 1) := by decide +kernel
theorem dX8_goMonths_13 : decode cX8_goMonths 13 = .ok (.iconst 0, 1) := by decide +kernel
theorem dX8_goMonths_14 : decode cX8_goMonths 14 = .ok (.putfield 202, 3) := by decide +kernel
theorem dX8_goMonths_17 : decode cX8_goMonths 17 = .ok (.iconst 0, 1) := by decide +kernel
theorem dX8_goMonths_18 : decode cX8_goMonths 18 = .ok (.istore_n 1, 1) := by decide +kernel
theorem dX8_goMonths_19 : decode cX8_goMonths 19 = .ok (.iload_n 1, 1) := by decide +kernel
theorem dX8_goMonths_20 : decode cX8_goMonths 20 = .ok (.aload_n 0, 1) := by decide +kernel
theorem dX8_goMonths_21 : decode cX8_goMonths 21 = .ok (.getfield 112, 3) := by decide +kernel
theorem dX8_goMonths_24 : decode cX8_goMonths 24 = .ok (.if_icmp .ge 131, 3) := by decide +kernel
theorem dX8_goMonths_27 : decode cX8_goMonths 27 = .ok (.aload_n 0, 1) := by decide +kernel
theorem dX8_goMonths_28 : decode cX8_goMonths 28 = .ok (.getfield 196, 3) := by decide +kernel
theorem dX8_goMonths_31 : decode cX8_goMonths 31 = .ok (.ifCond .ge 124, 3) := by decide +kernel
theorem dX8_goMonths_34 : decode cX8_goMonths 34 = .ok (.aload_n 0, 1) := by decide +kernel
theorem dX8_goMonths_35 : decode cX8_goMonths 35 = .ok (.aload_n 0, 1) := by decide +kernel
theorem dX8_goMonths_36 : decode cX8_goMonths 36 = .ok (.getfield 37, 3) := by decide +kernel
theorem dX8_goMonths_39 : decode cX8_goMonths 39 = .ok (.iload_n 1, 1) := by decide +kernel
theorem dX8_goMonths_40 : decode cX8_goMonths 40 = .ok (.iaload, 1) := by decide +kernel
theorem dX8_goMonths_41 : decode cX8_goMonths 41 = .ok (.aload_n 0, 1) := by decide +kernel
theorem dX8_goMonths_42 : decode cX8_goMonths 42 = .ok (.getfield 40, 3) := by decide +kernel
theorem dX8_goMonths_45 : decode cX8_goMonths 45 = .ok (.iload_n 1, 1) := by decide +kernel
theorem dX8_goMonths_46 : decode cX8_goMonths 46 = .ok (.iaload, 1) := by decide +kernel
theorem dX8_goMonths_47 : decode cX8_goMonths 47 = .ok (.aload_n 0, 1) := by decide +kernel
theorem dX8_goMonths_48 : decode cX8_goMonths 48 = .ok (.getfield 43, 3) := by decide +kernel
theorem dX8_goMonths_51 : decode cX8_goMonths 51 = .ok (.iload_n 1, 1) := by decide +kernel
theorem dX8_goMonths_52 : decode cX8_goMonths 52 = .ok (.iaload, 1) := by decide +kernel
theorem dX8_goMonths_53 : decode cX8_goMonths 53 = .ok (.invokevirtual 205, 3) := by decide +kernel
theorem dX8_goMonths_56 : decode cX8_goMonths 56 = .ok (.istore_n 2, 1) := by decide +kernel
theorem dX8_goMonths_57 : decode cX8_goMonths 57 = .ok (.aload_n 0, 1) := by decide +kernel
theorem dX8_goMonths_58 : decode cX8_goMonths 58 = .ok (.iload_n 2, 1) := by decide +kernel
theorem dX8_goMonths_59 : decode cX8_goMonths 59 = .ok (.ifCond .le 7, 3) := by decide +kernel
theorem dX8_goMonths_62 : decode cX8_goMonths 62 = .ok (.iload_n 1, 1) := by decide +kernel
theorem dX8_goMonths_63 : decode cX8_goMonths 63 = .ok (.goto 5, 3) := by decide +kernel
theorem dX8_goMonths_66 : decode cX8_goMonths 66 = .ok (.bipush (-6), 2) := by decide +kernel
theorem dX8_goMonths_68 : decode cX8_goMonths 68 = .ok (.putfield 196, 3) := by decide +kernel
theorem dX8_goMonths_71 : decode cX8_goMonths 71 = .ok (.aload_n 0, 1) := by decide +kernel
theorem dX8_goMonths_72 : decode cX8_goMonths 72 = .ok (.iload_n 2, 1) := by decide +kernel
theorem dX8_goMonths_73 : decode cX8_goMonths 73 = .ok (.ifCond .le 7, 3) := by decide +kernel
theorem dX8_goMonths_76 : decode cX8_goMonths 76 = .ok (.iload_n 2, 1) := by decide +kernel
theorem dX8_goMonths_77 : decode cX8_goMonths 77 = .ok (.goto 5, 3) := by decide +kernel
theorem dX8_goMonths_80 : decode cX8_goMonths 80 = .ok (.bipush (-6), 2) := by decide +kernel
theorem dX8_goMonths_82 : decode cX8_goMonths 82 = .ok (.putfield 199, 3) := by decide +kernel
theorem dX8_goMonths_85 : decode cX8_goMonths 85 = .ok (.iload_n 2, 1) := by decide +kernel
theorem dX8_goMonths_86 : decode cX8_goMonths 86 = .ok (.ifCond .ne 63, 3) := by decide +kernel
theorem dX8_goMonths_89 : decode cX8_goMonths 89 = .ok (.aload_n 0, 1) := by decide +kernel
theorem dX8_goMonths_90 : decode cX8_goMonths 90 = .ok (.aload_n 0, 1) := by decide +kernel
theorem dX8_goMonths_91 : decode cX8_goMonths 91 = .ok (.getfield 37, 3) := by decide +kernel
theorem dX8_goMonths_94 : decode cX8_goMonths 94 = .ok (.iload_n 1, 1) := by decide +kernel
theorem dX8_goMonths_95 : decode cX8_goMonths 95 = .ok (.iaload, 1) := by decide +kernel
theorem dX8_goMonths_96 : decode cX8_goMonths 96 = .ok (.aload_n 0, 1) := by decide +kernel
theorem dX8_goMonths_97 : decode cX8_goMonths 97 = .ok (.getfield 40, 3) := by decide +kernel
theorem dX8_goMonths_100 : decode cX8_goMonths 100 = .ok (.iload_n 1, 1) := by decide +kernel
theorem dX8_goMonths_101 : decode cX8_goMonths 101 = .ok (.iaload, 1) := by decide +kernel
theorem dX8_goMonths_102 : decode cX8_goMonths 102 = .ok (.aload_n 0, 1) := by decide +kernel
theorem dX8_goMonths_103 : decode cX8_goMonths 103 = .ok (.getfield 43, 3) := by decide +kernel
theorem dX8_goMonths_106 : decode cX8_goMonths 106 = .ok (.iload_n 1, 1) := by decide +kernel
theorem dX8_goMonths_107 : decode cX8_goMonths 107 = .ok (.iaload, 1) := by decide +kernel
theorem dX8_goMonths_108 : decode cX8_goMonths 108 = .ok (.invokevirtual 208, 3) := by decide +kernel
theorem dX8_goMonths_111 : decode cX8_goMonths 111 = .ok (.aload_n 0, 1) := by decide +kernel
theorem dX8_goMonths_112 : decode cX8_goMonths 112 = .ok (.getfield 49, 3) := by decide +kernel
theorem dX8_goMonths_115 : decode cX8_goMonths 115 = .ok (.aload_n 0, 1) := by decide +kernel
theorem dX8_goMonths_116 : decode cX8_goMonths 116 = .ok (.getfield 202, 3) := by decide +kernel
theorem dX8_goMonths_119 : decode cX8_goMonths 119 = .ok (.aload_n 0, 1) := by decide +kernel
theorem dX8_goMonths_120 : decode cX8_goMonths 120 = .ok (.invokevirtual 164, 3) := by decide +kernel
theorem dX8_goMonths_123 : decode cX8_goMonths 123 = .ok (.iastore, 1) := by decide +kernel
theorem dX8_goMonths_124 : decode cX8_goMonths 124 = .ok (.aload_n 0, 1) := by decide +kernel
theorem dX8_goMonths_125 : decode cX8_goMonths 125 = .ok (.dup, 1) := by decide +kernel
theorem dX8_goMonths_126 : decode cX8_goMonths 126 = .ok (.getfield 202, 3) := by decide +kernel
theorem dX8_goMonths_129 : decode cX8_goMonths 129 = .ok (.aload_n 0, 1) := by decide +kernel
theorem dX8_goMonths_130 : decode cX8_goMonths 130 = .ok (.getfield 37, 3) := by decide +kernel
theorem dX8_goMonths_133 : decode cX8_goMonths 133 = .ok (.iload_n 1, 1) := by decide +kernel
theorem dX8_goMonths_134 : decode cX8_goMonths 134 = .ok (.iaload, 1) := by decide +kernel
theorem dX8_goMonths_135 : decode cX8_goMonths 135 = .ok (.bipush 6, 2) := by decide +kernel
theorem dX8_goMonths_137 : decode cX8_goMonths 137 = .ok (.if_icmp .ne 7, 3) := by decide +kernel
theorem dX8_goMonths_140 : decode cX8_goMonths 140 = .ok (.iconst 1, 1) := by decide +kernel
theorem dX8_goMonths_141 : decode cX8_goMonths 141 = .ok (.goto 4, 3) := by decide +kernel
theorem dX8_goMonths_144 : decode cX8_goMonths 144 = .ok (.iconst 0, 1) := by decide +kernel
theorem dX8_goMonths_145 : decode cX8_goMonths 145 = .ok (.iadd, 1) := by decide +kernel
theorem dX8_goMonths_146 : decode cX8_goMonths 146 = .ok (.putfield 202, 3) := by decide +kernel
theorem dX8_goMonths_149 : decode cX8_goMonths 149 = .ok (.iinc 1 1, 3) := by decide +kernel
theorem dX8_goMonths_152 : decode cX8_goMonths 152 = .ok (.goto (-133), 3) := by decide +kernel
theorem dX8_goMonths_155 : decode cX8_goMonths 155 = .ok (.return_, 1) := by decide +kernel
theorem dX8_refusal_0 : decode cX8_refusal 0 = .ok (.aload_n 0, 1) := by decide +kernel
theorem dX8_refusal_1 : decode cX8_refusal 1 = .ok (.invokevirtual 212, 3) := by decide +kernel
theorem dX8_refusal_4 : decode cX8_refusal 4 = .ok (.aload_n 0, 1) := by decide +kernel
theorem dX8_refusal_5 : decode cX8_refusal 5 = .ok (.invokevirtual 215, 3) := by decide +kernel
theorem dX8_refusal_8 : decode cX8_refusal 8 = .ok (.ifCond .lt 6, 3) := by decide +kernel
theorem dX8_refusal_11 : decode cX8_refusal 11 = .ok (.bipush (-5), 2) := by decide +kernel
theorem dX8_refusal_13 : decode cX8_refusal 13 = .ok (.ireturn, 1) := by decide +kernel
theorem dX8_refusal_14 : decode cX8_refusal 14 = .ok (.aload_n 0, 1) := by decide +kernel
theorem dX8_refusal_15 : decode cX8_refusal 15 = .ok (.invokevirtual 218, 3) := by decide +kernel
theorem dX8_refusal_18 : decode cX8_refusal 18 = .ok (.aload_n 0, 1) := by decide +kernel
theorem dX8_refusal_19 : decode cX8_refusal 19 = .ok (.getfield 196, 3) := by decide +kernel
theorem dX8_refusal_22 : decode cX8_refusal 22 = .ok (.ifCond .lt 8, 3) := by decide +kernel
theorem dX8_refusal_25 : decode cX8_refusal 25 = .ok (.bipush (-3), 2) := by decide +kernel
theorem dX8_refusal_27 : decode cX8_refusal 27 = .ok (.goto 5, 3) := by decide +kernel
theorem dX8_refusal_30 : decode cX8_refusal 30 = .ok (.bipush (-6), 2) := by decide +kernel
theorem dX8_refusal_32 : decode cX8_refusal 32 = .ok (.ireturn, 1) := by decide +kernel
theorem dX8_judge_0 : decode cX8_judge 0 = .ok (.iload_n 1, 1) := by decide +kernel
theorem dX8_judge_1 : decode cX8_judge 1 = .ok (.i2l, 1) := by decide +kernel
theorem dX8_judge_2 : decode cX8_judge 2 = .ok (.lconst 0, 1) := by decide +kernel
theorem dX8_judge_3 : decode cX8_judge 3 = .ok (.ldc2_w 221, 3) := by decide +kernel
theorem dX8_judge_6 : decode cX8_judge 6 = .ok (.invokestatic 80, 3) := by decide +kernel
theorem dX8_judge_9 : decode cX8_judge 9 = .ok (.ifCond .ne 6, 3) := by decide +kernel
theorem dX8_judge_12 : decode cX8_judge 12 = .ok (.bipush (-2), 2) := by decide +kernel
theorem dX8_judge_14 : decode cX8_judge 14 = .ok (.ireturn, 1) := by decide +kernel
theorem dX8_judge_15 : decode cX8_judge 15 = .ok (.aload_n 0, 1) := by decide +kernel
theorem dX8_judge_16 : decode cX8_judge 16 = .ok (.aload_n 0, 1) := by decide +kernel
theorem dX8_judge_17 : decode cX8_judge 17 = .ok (.invokevirtual 223, 3) := by decide +kernel
theorem dX8_judge_20 : decode cX8_judge 20 = .ok (.invokevirtual 226, 3) := by decide +kernel
theorem dX8_judge_23 : decode cX8_judge 23 = .ok (.istore_n 2, 1) := by decide +kernel
theorem dX8_judge_24 : decode cX8_judge 24 = .ok (.iload_n 2, 1) := by decide +kernel
theorem dX8_judge_25 : decode cX8_judge 25 = .ok (.bipush (-5), 2) := by decide +kernel
theorem dX8_judge_27 : decode cX8_judge 27 = .ok (.if_icmp .eq 14, 3) := by decide +kernel
theorem dX8_judge_30 : decode cX8_judge 30 = .ok (.iload_n 1, 1) := by decide +kernel
theorem dX8_judge_31 : decode cX8_judge 31 = .ok (.iconst 1, 1) := by decide +kernel
theorem dX8_judge_32 : decode cX8_judge 32 = .ok (.if_icmp .le 11, 3) := by decide +kernel
theorem dX8_judge_35 : decode cX8_judge 35 = .ok (.iload_n 2, 1) := by decide +kernel
theorem dX8_judge_36 : decode cX8_judge 36 = .ok (.bipush (-3), 2) := by decide +kernel
theorem dX8_judge_38 : decode cX8_judge 38 = .ok (.if_icmp .ne 5, 3) := by decide +kernel
theorem dX8_judge_41 : decode cX8_judge 41 = .ok (.iload_n 2, 1) := by decide +kernel
theorem dX8_judge_42 : decode cX8_judge 42 = .ok (.ireturn, 1) := by decide +kernel
theorem dX8_judge_43 : decode cX8_judge 43 = .ok (.iload_n 1, 1) := by decide +kernel
theorem dX8_judge_44 : decode cX8_judge 44 = .ok (.ifCond .ne 10, 3) := by decide +kernel
theorem dX8_judge_47 : decode cX8_judge 47 = .ok (.aload_n 0, 1) := by decide +kernel
theorem dX8_judge_48 : decode cX8_judge 48 = .ok (.getfield 196, 3) := by decide +kernel
theorem dX8_judge_51 : decode cX8_judge 51 = .ok (.goto 19, 3) := by decide +kernel
theorem dX8_judge_54 : decode cX8_judge 54 = .ok (.iload_n 1, 1) := by decide +kernel
theorem dX8_judge_55 : decode cX8_judge 55 = .ok (.iconst 1, 1) := by decide +kernel
theorem dX8_judge_56 : decode cX8_judge 56 = .ok (.if_icmp .ne 10, 3) := by decide +kernel
theorem dX8_judge_59 : decode cX8_judge 59 = .ok (.aload_n 0, 1) := by decide +kernel
theorem dX8_judge_60 : decode cX8_judge 60 = .ok (.getfield 199, 3) := by decide +kernel
theorem dX8_judge_63 : decode cX8_judge 63 = .ok (.goto 7, 3) := by decide +kernel
theorem dX8_judge_66 : decode cX8_judge 66 = .ok (.aload_n 0, 1) := by decide +kernel
theorem dX8_judge_67 : decode cX8_judge 67 = .ok (.getfield 202, 3) := by decide +kernel
theorem dX8_judge_70 : decode cX8_judge 70 = .ok (.ireturn, 1) := by decide +kernel
theorem dX8_lotsOf_0 : decode cX8_lotsOf 0 = .ok (.iconst 0, 1) := by decide +kernel
theorem dX8_lotsOf_1 : decode cX8_lotsOf 1 = .ok (.istore_n 2, 1) := by decide +kernel
theorem dX8_lotsOf_2 : decode cX8_lotsOf 2 = .ok (.iconst 0, 1) := by decide +kernel
theorem dX8_lotsOf_3 : decode cX8_lotsOf 3 = .ok (.istore_n 3, 1) := by decide +kernel
theorem dX8_lotsOf_4 : decode cX8_lotsOf 4 = .ok (.iload_n 3, 1) := by decide +kernel
theorem dX8_lotsOf_5 : decode cX8_lotsOf 5 = .ok (.bipush 8, 2) := by decide +kernel
theorem dX8_lotsOf_7 : decode cX8_lotsOf 7 = .ok (.if_icmp .ge 29, 3) := by decide +kernel
theorem dX8_lotsOf_10 : decode cX8_lotsOf 10 = .ok (.iload_n 2, 1) := by decide +kernel
theorem dX8_lotsOf_11 : decode cX8_lotsOf 11 = .ok (.aload_n 0, 1) := by decide +kernel
theorem dX8_lotsOf_12 : decode cX8_lotsOf 12 = .ok (.getfield 22, 3) := by decide +kernel
theorem dX8_lotsOf_15 : decode cX8_lotsOf 15 = .ok (.iload_n 3, 1) := by decide +kernel
theorem dX8_lotsOf_16 : decode cX8_lotsOf 16 = .ok (.iaload, 1) := by decide +kernel
theorem dX8_lotsOf_17 : decode cX8_lotsOf 17 = .ok (.iload_n 1, 1) := by decide +kernel
theorem dX8_lotsOf_18 : decode cX8_lotsOf 18 = .ok (.if_icmp .ne 9, 3) := by decide +kernel
theorem dX8_lotsOf_21 : decode cX8_lotsOf 21 = .ok (.iconst 1, 1) := by decide +kernel
theorem dX8_lotsOf_22 : decode cX8_lotsOf 22 = .ok (.iload_n 3, 1) := by decide +kernel
theorem dX8_lotsOf_23 : decode cX8_lotsOf 23 = .ok (.ishl, 1) := by decide +kernel
theorem dX8_lotsOf_24 : decode cX8_lotsOf 24 = .ok (.goto 4, 3) := by decide +kernel
theorem dX8_lotsOf_27 : decode cX8_lotsOf 27 = .ok (.iconst 0, 1) := by decide +kernel
theorem dX8_lotsOf_28 : decode cX8_lotsOf 28 = .ok (.ior, 1) := by decide +kernel
theorem dX8_lotsOf_29 : decode cX8_lotsOf 29 = .ok (.istore_n 2, 1) := by decide +kernel
theorem dX8_lotsOf_30 : decode cX8_lotsOf 30 = .ok (.iinc 3 1, 3) := by decide +kernel
theorem dX8_lotsOf_33 : decode cX8_lotsOf 33 = .ok (.goto (-29), 3) := by decide +kernel
theorem dX8_lotsOf_36 : decode cX8_lotsOf 36 = .ok (.iload_n 2, 1) := by decide +kernel
theorem dX8_lotsOf_37 : decode cX8_lotsOf 37 = .ok (.ireturn, 1) := by decide +kernel
theorem dX8_owesInAll_0 : decode cX8_owesInAll 0 = .ok (.iconst 0, 1) := by decide +kernel
theorem dX8_owesInAll_1 : decode cX8_owesInAll 1 = .ok (.istore_n 2, 1) := by decide +kernel
theorem dX8_owesInAll_2 : decode cX8_owesInAll 2 = .ok (.iconst 0, 1) := by decide +kernel
theorem dX8_owesInAll_3 : decode cX8_owesInAll 3 = .ok (.istore_n 3, 1) := by decide +kernel
theorem dX8_owesInAll_4 : decode cX8_owesInAll 4 = .ok (.iload_n 3, 1) := by decide +kernel
theorem dX8_owesInAll_5 : decode cX8_owesInAll 5 = .ok (.bipush 6, 2) := by decide +kernel
theorem dX8_owesInAll_7 : decode cX8_owesInAll 7 = .ok (.if_icmp .ge 23, 3) := by decide +kernel
theorem dX8_owesInAll_10 : decode cX8_owesInAll 10 = .ok (.iload_n 2, 1) := by decide +kernel
theorem dX8_owesInAll_11 : decode cX8_owesInAll 11 = .ok (.aload_n 0, 1) := by decide +kernel
theorem dX8_owesInAll_12 : decode cX8_owesInAll 12 = .ok (.getfield 16, 3) := by decide +kernel
theorem dX8_owesInAll_15 : decode cX8_owesInAll 15 = .ok (.bipush 6, 2) := by decide +kernel
theorem dX8_owesInAll_17 : decode cX8_owesInAll 17 = .ok (.iload_n 1, 1) := by decide +kernel
theorem dX8_owesInAll_18 : decode cX8_owesInAll 18 = .ok (.imul, 1) := by decide +kernel
theorem dX8_owesInAll_19 : decode cX8_owesInAll 19 = .ok (.iload_n 3, 1) := by decide +kernel
theorem dX8_owesInAll_20 : decode cX8_owesInAll 20 = .ok (.iadd, 1) := by decide +kernel
theorem dX8_owesInAll_21 : decode cX8_owesInAll 21 = .ok (.iaload, 1) := by decide +kernel
theorem dX8_owesInAll_22 : decode cX8_owesInAll 22 = .ok (.iadd, 1) := by decide +kernel
theorem dX8_owesInAll_23 : decode cX8_owesInAll 23 = .ok (.istore_n 2, 1) := by decide +kernel
theorem dX8_owesInAll_24 : decode cX8_owesInAll 24 = .ok (.iinc 3 1, 3) := by decide +kernel
theorem dX8_owesInAll_27 : decode cX8_owesInAll 27 = .ok (.goto (-23), 3) := by decide +kernel
theorem dX8_owesInAll_30 : decode cX8_owesInAll 30 = .ok (.iload_n 2, 1) := by decide +kernel
theorem dX8_owesInAll_31 : decode cX8_owesInAll 31 = .ok (.ireturn, 1) := by decide +kernel
theorem dX8_ofOne_0 : decode cX8_ofOne 0 = .ok (.iload_n 2, 1) := by decide +kernel
theorem dX8_ofOne_1 : decode cX8_ofOne 1 = .ok (.tableswitch 47 0 2 #[27, 34, 41], 27) := by decide +kernel
theorem dX8_ofOne_28 : decode cX8_ofOne 28 = .ok (.aload_n 0, 1) := by decide +kernel
theorem dX8_ofOne_29 : decode cX8_ofOne 29 = .ok (.getfield 7, 3) := by decide +kernel
theorem dX8_ofOne_32 : decode cX8_ofOne 32 = .ok (.iload_n 1, 1) := by decide +kernel
theorem dX8_ofOne_33 : decode cX8_ofOne 33 = .ok (.iaload, 1) := by decide +kernel
theorem dX8_ofOne_34 : decode cX8_ofOne 34 = .ok (.ireturn, 1) := by decide +kernel
theorem dX8_ofOne_35 : decode cX8_ofOne 35 = .ok (.aload_n 0, 1) := by decide +kernel
theorem dX8_ofOne_36 : decode cX8_ofOne 36 = .ok (.getfield 13, 3) := by decide +kernel
theorem dX8_ofOne_39 : decode cX8_ofOne 39 = .ok (.iload_n 1, 1) := by decide +kernel
theorem dX8_ofOne_40 : decode cX8_ofOne 40 = .ok (.iaload, 1) := by decide +kernel
theorem dX8_ofOne_41 : decode cX8_ofOne 41 = .ok (.ireturn, 1) := by decide +kernel
theorem dX8_ofOne_42 : decode cX8_ofOne 42 = .ok (.aload_n 0, 1) := by decide +kernel
theorem dX8_ofOne_43 : decode cX8_ofOne 43 = .ok (.iload_n 1, 1) := by decide +kernel
theorem dX8_ofOne_44 : decode cX8_ofOne 44 = .ok (.invokevirtual 229, 3) := by decide +kernel
theorem dX8_ofOne_47 : decode cX8_ofOne 47 = .ok (.ireturn, 1) := by decide +kernel
theorem dX8_ofOne_48 : decode cX8_ofOne 48 = .ok (.aload_n 0, 1) := by decide +kernel
theorem dX8_ofOne_49 : decode cX8_ofOne 49 = .ok (.iload_n 1, 1) := by decide +kernel
theorem dX8_ofOne_50 : decode cX8_ofOne 50 = .ok (.invokevirtual 232, 3) := by decide +kernel
theorem dX8_ofOne_53 : decode cX8_ofOne 53 = .ok (.ireturn, 1) := by decide +kernel
theorem dX8_behind_0 : decode cX8_behind 0 = .ok (.iload_n 1, 1) := by decide +kernel
theorem dX8_behind_1 : decode cX8_behind 1 = .ok (.invokestatic 84, 3) := by decide +kernel
theorem dX8_behind_4 : decode cX8_behind 4 = .ok (.ifCond .ne 5, 3) := by decide +kernel
theorem dX8_behind_7 : decode cX8_behind 7 = .ok (.iconst (-1), 1) := by decide +kernel
theorem dX8_behind_8 : decode cX8_behind 8 = .ok (.ireturn, 1) := by decide +kernel
theorem dX8_behind_9 : decode cX8_behind 9 = .ok (.iload_n 2, 1) := by decide +kernel
theorem dX8_behind_10 : decode cX8_behind 10 = .ok (.i2l, 1) := by decide +kernel
theorem dX8_behind_11 : decode cX8_behind 11 = .ok (.lconst 0, 1) := by decide +kernel
theorem dX8_behind_12 : decode cX8_behind 12 = .ok (.ldc2_w 235, 3) := by decide +kernel
theorem dX8_behind_15 : decode cX8_behind 15 = .ok (.invokestatic 80, 3) := by decide +kernel
theorem dX8_behind_18 : decode cX8_behind 18 = .ok (.ifCond .ne 6, 3) := by decide +kernel
theorem dX8_behind_21 : decode cX8_behind 21 = .ok (.bipush (-2), 2) := by decide +kernel
theorem dX8_behind_23 : decode cX8_behind 23 = .ok (.ireturn, 1) := by decide +kernel
theorem dX8_behind_24 : decode cX8_behind 24 = .ok (.aload_n 0, 1) := by decide +kernel
theorem dX8_behind_25 : decode cX8_behind 25 = .ok (.invokevirtual 223, 3) := by decide +kernel
theorem dX8_behind_28 : decode cX8_behind 28 = .ok (.istore_n 3, 1) := by decide +kernel
theorem dX8_behind_29 : decode cX8_behind 29 = .ok (.aload_n 0, 1) := by decide +kernel
theorem dX8_behind_30 : decode cX8_behind 30 = .ok (.iload_n 3, 1) := by decide +kernel
theorem dX8_behind_31 : decode cX8_behind 31 = .ok (.bipush (-6), 2) := by decide +kernel
theorem dX8_behind_33 : decode cX8_behind 33 = .ok (.if_icmp .eq 7, 3) := by decide +kernel
theorem dX8_behind_36 : decode cX8_behind 36 = .ok (.iload_n 3, 1) := by decide +kernel
theorem dX8_behind_37 : decode cX8_behind 37 = .ok (.goto 9, 3) := by decide +kernel
theorem dX8_behind_40 : decode cX8_behind 40 = .ok (.aload_n 0, 1) := by decide +kernel
theorem dX8_behind_41 : decode cX8_behind 41 = .ok (.iload_n 1, 1) := by decide +kernel
theorem dX8_behind_42 : decode cX8_behind 42 = .ok (.iload_n 2, 1) := by decide +kernel
theorem dX8_behind_43 : decode cX8_behind 43 = .ok (.invokevirtual 237, 3) := by decide +kernel
theorem dX8_behind_46 : decode cX8_behind 46 = .ok (.invokevirtual 226, 3) := by decide +kernel
theorem dX8_behind_49 : decode cX8_behind 49 = .ok (.ireturn, 1) := by decide +kernel
theorem dX8_ofAll_0 : decode cX8_ofAll 0 = .ok (.iload_n 1, 1) := by decide +kernel
theorem dX8_ofAll_1 : decode cX8_ofAll 1 = .ok (.tableswitch 60 0 4 #[35, 40, 45, 50, 55], 35) := by decide +kernel
theorem dX8_ofAll_36 : decode cX8_ofAll 36 = .ok (.aload_n 0, 1) := by decide +kernel
theorem dX8_ofAll_37 : decode cX8_ofAll 37 = .ok (.invokevirtual 157, 3) := by decide +kernel
theorem dX8_ofAll_40 : decode cX8_ofAll 40 = .ok (.ireturn, 1) := by decide +kernel
theorem dX8_ofAll_41 : decode cX8_ofAll 41 = .ok (.aload_n 0, 1) := by decide +kernel
theorem dX8_ofAll_42 : decode cX8_ofAll 42 = .ok (.invokevirtual 153, 3) := by decide +kernel
theorem dX8_ofAll_45 : decode cX8_ofAll 45 = .ok (.ireturn, 1) := by decide +kernel
theorem dX8_ofAll_46 : decode cX8_ofAll 46 = .ok (.aload_n 0, 1) := by decide +kernel
theorem dX8_ofAll_47 : decode cX8_ofAll 47 = .ok (.invokevirtual 164, 3) := by decide +kernel
theorem dX8_ofAll_50 : decode cX8_ofAll 50 = .ok (.ireturn, 1) := by decide +kernel
theorem dX8_ofAll_51 : decode cX8_ofAll 51 = .ok (.aload_n 0, 1) := by decide +kernel
theorem dX8_ofAll_52 : decode cX8_ofAll 52 = .ok (.getfield 183, 3) := by decide +kernel
theorem dX8_ofAll_55 : decode cX8_ofAll 55 = .ok (.ireturn, 1) := by decide +kernel
theorem dX8_ofAll_56 : decode cX8_ofAll 56 = .ok (.aload_n 0, 1) := by decide +kernel
theorem dX8_ofAll_57 : decode cX8_ofAll 57 = .ok (.getfield 102, 3) := by decide +kernel
theorem dX8_ofAll_60 : decode cX8_ofAll 60 = .ok (.ireturn, 1) := by decide +kernel
theorem dX8_ofAll_61 : decode cX8_ofAll 61 = .ok (.aload_n 0, 1) := by decide +kernel
theorem dX8_ofAll_62 : decode cX8_ofAll 62 = .ok (.getfield 180, 3) := by decide +kernel
theorem dX8_ofAll_65 : decode cX8_ofAll 65 = .ok (.ireturn, 1) := by decide +kernel
theorem dX8_total_0 : decode cX8_total 0 = .ok (.iload_n 1, 1) := by decide +kernel
theorem dX8_total_1 : decode cX8_total 1 = .ok (.i2l, 1) := by decide +kernel
theorem dX8_total_2 : decode cX8_total 2 = .ok (.lconst 0, 1) := by decide +kernel
theorem dX8_total_3 : decode cX8_total 3 = .ok (.ldc2_w 78, 3) := by decide +kernel
theorem dX8_total_6 : decode cX8_total 6 = .ok (.invokestatic 80, 3) := by decide +kernel
theorem dX8_total_9 : decode cX8_total 9 = .ok (.ifCond .ne 6, 3) := by decide +kernel
theorem dX8_total_12 : decode cX8_total 12 = .ok (.bipush (-2), 2) := by decide +kernel
theorem dX8_total_14 : decode cX8_total 14 = .ok (.ireturn, 1) := by decide +kernel
theorem dX8_total_15 : decode cX8_total 15 = .ok (.aload_n 0, 1) := by decide +kernel
theorem dX8_total_16 : decode cX8_total 16 = .ok (.invokevirtual 223, 3) := by decide +kernel
theorem dX8_total_19 : decode cX8_total 19 = .ok (.istore_n 2, 1) := by decide +kernel
theorem dX8_total_20 : decode cX8_total 20 = .ok (.aload_n 0, 1) := by decide +kernel
theorem dX8_total_21 : decode cX8_total 21 = .ok (.iload_n 2, 1) := by decide +kernel
theorem dX8_total_22 : decode cX8_total 22 = .ok (.bipush (-6), 2) := by decide +kernel
theorem dX8_total_24 : decode cX8_total 24 = .ok (.if_icmp .eq 7, 3) := by decide +kernel
theorem dX8_total_27 : decode cX8_total 27 = .ok (.iload_n 2, 1) := by decide +kernel
theorem dX8_total_28 : decode cX8_total 28 = .ok (.goto 8, 3) := by decide +kernel
theorem dX8_total_31 : decode cX8_total 31 = .ok (.aload_n 0, 1) := by decide +kernel
theorem dX8_total_32 : decode cX8_total 32 = .ok (.iload_n 1, 1) := by decide +kernel
theorem dX8_total_33 : decode cX8_total 33 = .ok (.invokevirtual 240, 3) := by decide +kernel
theorem dX8_total_36 : decode cX8_total 36 = .ok (.invokevirtual 226, 3) := by decide +kernel
theorem dX8_total_39 : decode cX8_total 39 = .ok (.ireturn, 1) := by decide +kernel
theorem dX8_fell_0 : decode cX8_fell 0 = .ok (.iload_n 1, 1) := by decide +kernel
theorem dX8_fell_1 : decode cX8_fell 1 = .ok (.i2l, 1) := by decide +kernel
theorem dX8_fell_2 : decode cX8_fell 2 = .ok (.lconst 0, 1) := by decide +kernel
theorem dX8_fell_3 : decode cX8_fell 3 = .ok (.ldc2_w 151, 3) := by decide +kernel
theorem dX8_fell_6 : decode cX8_fell 6 = .ok (.invokestatic 80, 3) := by decide +kernel
theorem dX8_fell_9 : decode cX8_fell 9 = .ok (.ifCond .ne 6, 3) := by decide +kernel
theorem dX8_fell_12 : decode cX8_fell 12 = .ok (.bipush (-2), 2) := by decide +kernel
theorem dX8_fell_14 : decode cX8_fell 14 = .ok (.ireturn, 1) := by decide +kernel
theorem dX8_fell_15 : decode cX8_fell 15 = .ok (.aload_n 0, 1) := by decide +kernel
theorem dX8_fell_16 : decode cX8_fell 16 = .ok (.aload_n 0, 1) := by decide +kernel
theorem dX8_fell_17 : decode cX8_fell 17 = .ok (.invokevirtual 223, 3) := by decide +kernel
theorem dX8_fell_20 : decode cX8_fell 20 = .ok (.invokevirtual 226, 3) := by decide +kernel
theorem dX8_fell_23 : decode cX8_fell 23 = .ok (.istore_n 2, 1) := by decide +kernel
theorem dX8_fell_24 : decode cX8_fell 24 = .ok (.iload_n 2, 1) := by decide +kernel
theorem dX8_fell_25 : decode cX8_fell 25 = .ok (.bipush (-6), 2) := by decide +kernel
theorem dX8_fell_27 : decode cX8_fell 27 = .ok (.if_icmp .eq 5, 3) := by decide +kernel
theorem dX8_fell_30 : decode cX8_fell 30 = .ok (.iload_n 2, 1) := by decide +kernel
theorem dX8_fell_31 : decode cX8_fell 31 = .ok (.ireturn, 1) := by decide +kernel
theorem dX8_fell_32 : decode cX8_fell 32 = .ok (.iconst 0, 1) := by decide +kernel
theorem dX8_fell_33 : decode cX8_fell 33 = .ok (.istore_n 3, 1) := by decide +kernel
theorem dX8_fell_34 : decode cX8_fell 34 = .ok (.iload_n 3, 1) := by decide +kernel
theorem dX8_fell_35 : decode cX8_fell 35 = .ok (.aload_n 0, 1) := by decide +kernel
theorem dX8_fell_36 : decode cX8_fell 36 = .ok (.getfield 202, 3) := by decide +kernel
theorem dX8_fell_39 : decode cX8_fell 39 = .ok (.if_icmp .ge 21, 3) := by decide +kernel
theorem dX8_fell_42 : decode cX8_fell 42 = .ok (.aload_n 0, 1) := by decide +kernel
theorem dX8_fell_43 : decode cX8_fell 43 = .ok (.getfield 49, 3) := by decide +kernel
theorem dX8_fell_46 : decode cX8_fell 46 = .ok (.iload_n 3, 1) := by decide +kernel
theorem dX8_fell_47 : decode cX8_fell 47 = .ok (.iaload, 1) := by decide +kernel
theorem dX8_fell_48 : decode cX8_fell 48 = .ok (.iload_n 1, 1) := by decide +kernel
theorem dX8_fell_49 : decode cX8_fell 49 = .ok (.if_icmp .ge 5, 3) := by decide +kernel
theorem dX8_fell_52 : decode cX8_fell 52 = .ok (.iload_n 3, 1) := by decide +kernel
theorem dX8_fell_53 : decode cX8_fell 53 = .ok (.ireturn, 1) := by decide +kernel
theorem dX8_fell_54 : decode cX8_fell 54 = .ok (.iinc 3 1, 3) := by decide +kernel
theorem dX8_fell_57 : decode cX8_fell 57 = .ok (.goto (-23), 3) := by decide +kernel
theorem dX8_fell_60 : decode cX8_fell 60 = .ok (.bipush (-6), 2) := by decide +kernel
theorem dX8_fell_62 : decode cX8_fell 62 = .ok (.ireturn, 1) := by decide +kernel
theorem dX8_done_0 : decode cX8_done 0 = .ok (.aload_n 0, 1) := by decide +kernel
theorem dX8_done_1 : decode cX8_done 1 = .ok (.invokevirtual 223, 3) := by decide +kernel
theorem dX8_done_4 : decode cX8_done 4 = .ok (.istore_n 1, 1) := by decide +kernel
theorem dX8_done_5 : decode cX8_done 5 = .ok (.iload_n 1, 1) := by decide +kernel
theorem dX8_done_6 : decode cX8_done 6 = .ok (.bipush (-6), 2) := by decide +kernel
theorem dX8_done_8 : decode cX8_done 8 = .ok (.if_icmp .eq 9, 3) := by decide +kernel
theorem dX8_done_11 : decode cX8_done 11 = .ok (.aload_n 0, 1) := by decide +kernel
theorem dX8_done_12 : decode cX8_done 12 = .ok (.iload_n 1, 1) := by decide +kernel
theorem dX8_done_13 : decode cX8_done 13 = .ok (.invokevirtual 226, 3) := by decide +kernel
theorem dX8_done_16 : decode cX8_done 16 = .ok (.ireturn, 1) := by decide +kernel
theorem dX8_done_17 : decode cX8_done 17 = .ok (.aload_n 0, 1) := by decide +kernel
theorem dX8_done_18 : decode cX8_done 18 = .ok (.iconst 0, 1) := by decide +kernel
theorem dX8_done_19 : decode cX8_done 19 = .ok (.putfield 109, 3) := by decide +kernel
theorem dX8_done_22 : decode cX8_done 22 = .ok (.aload_n 0, 1) := by decide +kernel
theorem dX8_done_23 : decode cX8_done 23 = .ok (.getfield 112, 3) := by decide +kernel
theorem dX8_done_26 : decode cX8_done 26 = .ok (.ireturn, 1) := by decide +kernel
theorem dX8_netOf_0 : decode cX8_netOf 0 = .ok (.iconst 0, 1) := by decide +kernel
theorem dX8_netOf_1 : decode cX8_netOf 1 = .ok (.istore_n 2, 1) := by decide +kernel
theorem dX8_netOf_2 : decode cX8_netOf 2 = .ok (.iconst 0, 1) := by decide +kernel
theorem dX8_netOf_3 : decode cX8_netOf 3 = .ok (.istore_n 3, 1) := by decide +kernel
theorem dX8_netOf_4 : decode cX8_netOf 4 = .ok (.iload_n 3, 1) := by decide +kernel
theorem dX8_netOf_5 : decode cX8_netOf 5 = .ok (.bipush 6, 2) := by decide +kernel
theorem dX8_netOf_7 : decode cX8_netOf 7 = .ok (.if_icmp .ge 31, 3) := by decide +kernel
theorem dX8_netOf_10 : decode cX8_netOf 10 = .ok (.iload_n 2, 1) := by decide +kernel
theorem dX8_netOf_11 : decode cX8_netOf 11 = .ok (.iload_n 1, 1) := by decide +kernel
theorem dX8_netOf_12 : decode cX8_netOf 12 = .ok (.iload_n 3, 1) := by decide +kernel
theorem dX8_netOf_13 : decode cX8_netOf 13 = .ok (.ishr, 1) := by decide +kernel
theorem dX8_netOf_14 : decode cX8_netOf 14 = .ok (.iconst 1, 1) := by decide +kernel
theorem dX8_netOf_15 : decode cX8_netOf 15 = .ok (.iand, 1) := by decide +kernel
theorem dX8_netOf_16 : decode cX8_netOf 16 = .ok (.iconst 1, 1) := by decide +kernel
theorem dX8_netOf_17 : decode cX8_netOf 17 = .ok (.if_icmp .ne 12, 3) := by decide +kernel
theorem dX8_netOf_20 : decode cX8_netOf 20 = .ok (.aload_n 0, 1) := by decide +kernel
theorem dX8_netOf_21 : decode cX8_netOf 21 = .ok (.getfield 52, 3) := by decide +kernel
theorem dX8_netOf_24 : decode cX8_netOf 24 = .ok (.iload_n 3, 1) := by decide +kernel
theorem dX8_netOf_25 : decode cX8_netOf 25 = .ok (.iaload, 1) := by decide +kernel
theorem dX8_netOf_26 : decode cX8_netOf 26 = .ok (.goto 4, 3) := by decide +kernel
theorem dX8_netOf_29 : decode cX8_netOf 29 = .ok (.iconst 0, 1) := by decide +kernel
theorem dX8_netOf_30 : decode cX8_netOf 30 = .ok (.iadd, 1) := by decide +kernel
theorem dX8_netOf_31 : decode cX8_netOf 31 = .ok (.istore_n 2, 1) := by decide +kernel
theorem dX8_netOf_32 : decode cX8_netOf 32 = .ok (.iinc 3 1, 3) := by decide +kernel
theorem dX8_netOf_35 : decode cX8_netOf 35 = .ok (.goto (-31), 3) := by decide +kernel
theorem dX8_netOf_38 : decode cX8_netOf 38 = .ok (.iload_n 2, 1) := by decide +kernel
theorem dX8_netOf_39 : decode cX8_netOf 39 = .ok (.ireturn, 1) := by decide +kernel
theorem dX8_mostEven_0 : decode cX8_mostEven 0 = .ok (.aload_n 0, 1) := by decide +kernel
theorem dX8_mostEven_1 : decode cX8_mostEven 1 = .ok (.iload_n 1, 1) := by decide +kernel
theorem dX8_mostEven_2 : decode cX8_mostEven 2 = .ok (.invokevirtual 243, 3) := by decide +kernel
theorem dX8_mostEven_5 : decode cX8_mostEven 5 = .ok (.ifCond .ne 7, 3) := by decide +kernel
theorem dX8_mostEven_8 : decode cX8_mostEven 8 = .ok (.iconst 1, 1) := by decide +kernel
theorem dX8_mostEven_9 : decode cX8_mostEven 9 = .ok (.goto 5, 3) := by decide +kernel
theorem dX8_mostEven_12 : decode cX8_mostEven 12 = .ok (.bipush (-6), 2) := by decide +kernel
theorem dX8_mostEven_14 : decode cX8_mostEven 14 = .ok (.istore_n 2, 1) := by decide +kernel
theorem dX8_mostEven_15 : decode cX8_mostEven 15 = .ok (.iconst 1, 1) := by decide +kernel
theorem dX8_mostEven_16 : decode cX8_mostEven 16 = .ok (.istore_n 3, 1) := by decide +kernel
theorem dX8_mostEven_17 : decode cX8_mostEven 17 = .ok (.iload_n 3, 1) := by decide +kernel
theorem dX8_mostEven_18 : decode cX8_mostEven 18 = .ok (.iload_n 1, 1) := by decide +kernel
theorem dX8_mostEven_19 : decode cX8_mostEven 19 = .ok (.if_icmp .ge 88, 3) := by decide +kernel
theorem dX8_mostEven_22 : decode cX8_mostEven 22 = .ok (.iload_n 3, 1) := by decide +kernel
theorem dX8_mostEven_23 : decode cX8_mostEven 23 = .ok (.iload_n 1, 1) := by decide +kernel
theorem dX8_mostEven_24 : decode cX8_mostEven 24 = .ok (.iconst (-1), 1) := by decide +kernel
theorem dX8_mostEven_25 : decode cX8_mostEven 25 = .ok (.ixor, 1) := by decide +kernel
theorem dX8_mostEven_26 : decode cX8_mostEven 26 = .ok (.iand, 1) := by decide +kernel
theorem dX8_mostEven_27 : decode cX8_mostEven 27 = .ok (.ifCond .ne 29, 3) := by decide +kernel
theorem dX8_mostEven_30 : decode cX8_mostEven 30 = .ok (.aload_n 0, 1) := by decide +kernel
theorem dX8_mostEven_31 : decode cX8_mostEven 31 = .ok (.getfield 55, 3) := by decide +kernel
theorem dX8_mostEven_34 : decode cX8_mostEven 34 = .ok (.iload_n 3, 1) := by decide +kernel
theorem dX8_mostEven_35 : decode cX8_mostEven 35 = .ok (.iaload, 1) := by decide +kernel
theorem dX8_mostEven_36 : decode cX8_mostEven 36 = .ok (.ifCond .le 20, 3) := by decide +kernel
theorem dX8_mostEven_39 : decode cX8_mostEven 39 = .ok (.aload_n 0, 1) := by decide +kernel
theorem dX8_mostEven_40 : decode cX8_mostEven 40 = .ok (.getfield 55, 3) := by decide +kernel
theorem dX8_mostEven_43 : decode cX8_mostEven 43 = .ok (.iload_n 1, 1) := by decide +kernel
theorem dX8_mostEven_44 : decode cX8_mostEven 44 = .ok (.iload_n 3, 1) := by decide +kernel
theorem dX8_mostEven_45 : decode cX8_mostEven 45 = .ok (.iconst (-1), 1) := by decide +kernel
theorem dX8_mostEven_46 : decode cX8_mostEven 46 = .ok (.ixor, 1) := by decide +kernel
theorem dX8_mostEven_47 : decode cX8_mostEven 47 = .ok (.iand, 1) := by decide +kernel
theorem dX8_mostEven_48 : decode cX8_mostEven 48 = .ok (.iaload, 1) := by decide +kernel
theorem dX8_mostEven_49 : decode cX8_mostEven 49 = .ok (.ifCond .le 7, 3) := by decide +kernel
theorem dX8_mostEven_52 : decode cX8_mostEven 52 = .ok (.iconst 1, 1) := by decide +kernel
theorem dX8_mostEven_53 : decode cX8_mostEven 53 = .ok (.goto 4, 3) := by decide +kernel
theorem dX8_mostEven_56 : decode cX8_mostEven 56 = .ok (.iconst 0, 1) := by decide +kernel
theorem dX8_mostEven_57 : decode cX8_mostEven 57 = .ok (.istore 4, 2) := by decide +kernel
theorem dX8_mostEven_59 : decode cX8_mostEven 59 = .ok (.iload 4, 2) := by decide +kernel
theorem dX8_mostEven_61 : decode cX8_mostEven 61 = .ok (.ifCond .eq 23, 3) := by decide +kernel
theorem dX8_mostEven_64 : decode cX8_mostEven 64 = .ok (.aload_n 0, 1) := by decide +kernel
theorem dX8_mostEven_65 : decode cX8_mostEven 65 = .ok (.getfield 55, 3) := by decide +kernel
theorem dX8_mostEven_68 : decode cX8_mostEven 68 = .ok (.iload_n 3, 1) := by decide +kernel
theorem dX8_mostEven_69 : decode cX8_mostEven 69 = .ok (.iaload, 1) := by decide +kernel
theorem dX8_mostEven_70 : decode cX8_mostEven 70 = .ok (.aload_n 0, 1) := by decide +kernel
theorem dX8_mostEven_71 : decode cX8_mostEven 71 = .ok (.getfield 55, 3) := by decide +kernel
theorem dX8_mostEven_74 : decode cX8_mostEven 74 = .ok (.iload_n 1, 1) := by decide +kernel
theorem dX8_mostEven_75 : decode cX8_mostEven 75 = .ok (.iload_n 3, 1) := by decide +kernel
theorem dX8_mostEven_76 : decode cX8_mostEven 76 = .ok (.iconst (-1), 1) := by decide +kernel
theorem dX8_mostEven_77 : decode cX8_mostEven 77 = .ok (.ixor, 1) := by decide +kernel
theorem dX8_mostEven_78 : decode cX8_mostEven 78 = .ok (.iand, 1) := by decide +kernel
theorem dX8_mostEven_79 : decode cX8_mostEven 79 = .ok (.iaload, 1) := by decide +kernel
theorem dX8_mostEven_80 : decode cX8_mostEven 80 = .ok (.iadd, 1) := by decide +kernel
theorem dX8_mostEven_81 : decode cX8_mostEven 81 = .ok (.goto 5, 3) := by decide +kernel
theorem dX8_mostEven_84 : decode cX8_mostEven 84 = .ok (.bipush (-6), 2) := by decide +kernel
theorem dX8_mostEven_86 : decode cX8_mostEven 86 = .ok (.istore 5, 2) := by decide +kernel
theorem dX8_mostEven_88 : decode cX8_mostEven 88 = .ok (.iload 5, 2) := by decide +kernel
theorem dX8_mostEven_90 : decode cX8_mostEven 90 = .ok (.iload_n 2, 1) := by decide +kernel
theorem dX8_mostEven_91 : decode cX8_mostEven 91 = .ok (.if_icmp .le 8, 3) := by decide +kernel
theorem dX8_mostEven_94 : decode cX8_mostEven 94 = .ok (.iload 5, 2) := by decide +kernel
theorem dX8_mostEven_96 : decode cX8_mostEven 96 = .ok (.goto 4, 3) := by decide +kernel
theorem dX8_mostEven_99 : decode cX8_mostEven 99 = .ok (.iload_n 2, 1) := by decide +kernel
theorem dX8_mostEven_100 : decode cX8_mostEven 100 = .ok (.istore_n 2, 1) := by decide +kernel
theorem dX8_mostEven_101 : decode cX8_mostEven 101 = .ok (.iinc 3 1, 3) := by decide +kernel
theorem dX8_mostEven_104 : decode cX8_mostEven 104 = .ok (.goto (-87), 3) := by decide +kernel
theorem dX8_mostEven_107 : decode cX8_mostEven 107 = .ok (.iload_n 2, 1) := by decide +kernel
theorem dX8_mostEven_108 : decode cX8_mostEven 108 = .ok (.ireturn, 1) := by decide +kernel
theorem dX8_struck_0 : decode cX8_struck 0 = .ok (.iload_n 1, 1) := by decide +kernel
theorem dX8_struck_1 : decode cX8_struck 1 = .ok (.i2l, 1) := by decide +kernel
theorem dX8_struck_2 : decode cX8_struck 2 = .ok (.lconst 0, 1) := by decide +kernel
theorem dX8_struck_3 : decode cX8_struck 3 = .ok (.lconst 1, 1) := by decide +kernel
theorem dX8_struck_4 : decode cX8_struck 4 = .ok (.invokestatic 80, 3) := by decide +kernel
theorem dX8_struck_7 : decode cX8_struck 7 = .ok (.ifCond .ne 6, 3) := by decide +kernel
theorem dX8_struck_10 : decode cX8_struck 10 = .ok (.bipush (-2), 2) := by decide +kernel
theorem dX8_struck_12 : decode cX8_struck 12 = .ok (.ireturn, 1) := by decide +kernel
theorem dX8_struck_13 : decode cX8_struck 13 = .ok (.iconst 0, 1) := by decide +kernel
theorem dX8_struck_14 : decode cX8_struck 14 = .ok (.istore_n 2, 1) := by decide +kernel
theorem dX8_struck_15 : decode cX8_struck 15 = .ok (.iconst 0, 1) := by decide +kernel
theorem dX8_struck_16 : decode cX8_struck 16 = .ok (.istore_n 3, 1) := by decide +kernel
theorem dX8_struck_17 : decode cX8_struck 17 = .ok (.iload_n 3, 1) := by decide +kernel
theorem dX8_struck_18 : decode cX8_struck 18 = .ok (.bipush 6, 2) := by decide +kernel
theorem dX8_struck_20 : decode cX8_struck 20 = .ok (.if_icmp .ge 80, 3) := by decide +kernel
theorem dX8_struck_23 : decode cX8_struck 23 = .ok (.aload_n 0, 1) := by decide +kernel
theorem dX8_struck_24 : decode cX8_struck 24 = .ok (.getfield 52, 3) := by decide +kernel
theorem dX8_struck_27 : decode cX8_struck 27 = .ok (.iload_n 3, 1) := by decide +kernel
theorem dX8_struck_28 : decode cX8_struck 28 = .ok (.aload_n 0, 1) := by decide +kernel
theorem dX8_struck_29 : decode cX8_struck 29 = .ok (.iload_n 3, 1) := by decide +kernel
theorem dX8_struck_30 : decode cX8_struck 30 = .ok (.invokevirtual 232, 3) := by decide +kernel
theorem dX8_struck_33 : decode cX8_struck 33 = .ok (.ineg, 1) := by decide +kernel
theorem dX8_struck_34 : decode cX8_struck 34 = .ok (.iastore, 1) := by decide +kernel
theorem dX8_struck_35 : decode cX8_struck 35 = .ok (.iconst 0, 1) := by decide +kernel
theorem dX8_struck_36 : decode cX8_struck 36 = .ok (.istore 4, 2) := by decide +kernel
theorem dX8_struck_38 : decode cX8_struck 38 = .ok (.iload 4, 2) := by decide +kernel
theorem dX8_struck_40 : decode cX8_struck 40 = .ok (.bipush 6, 2) := by decide +kernel
theorem dX8_struck_42 : decode cX8_struck 42 = .ok (.if_icmp .ge 30, 3) := by decide +kernel
theorem dX8_struck_45 : decode cX8_struck 45 = .ok (.aload_n 0, 1) := by decide +kernel
theorem dX8_struck_46 : decode cX8_struck 46 = .ok (.getfield 52, 3) := by decide +kernel
theorem dX8_struck_49 : decode cX8_struck 49 = .ok (.iload_n 3, 1) := by decide +kernel
theorem dX8_struck_50 : decode cX8_struck 50 = .ok (.dup2, 1) := by decide +kernel
theorem dX8_struck_51 : decode cX8_struck 51 = .ok (.iaload, 1) := by decide +kernel
theorem dX8_struck_52 : decode cX8_struck 52 = .ok (.aload_n 0, 1) := by decide +kernel
theorem dX8_struck_53 : decode cX8_struck 53 = .ok (.getfield 16, 3) := by decide +kernel
theorem dX8_struck_56 : decode cX8_struck 56 = .ok (.bipush 6, 2) := by decide +kernel
theorem dX8_struck_58 : decode cX8_struck 58 = .ok (.iload 4, 2) := by decide +kernel
theorem dX8_struck_60 : decode cX8_struck 60 = .ok (.imul, 1) := by decide +kernel
theorem dX8_struck_61 : decode cX8_struck 61 = .ok (.iload_n 3, 1) := by decide +kernel
theorem dX8_struck_62 : decode cX8_struck 62 = .ok (.iadd, 1) := by decide +kernel
theorem dX8_struck_63 : decode cX8_struck 63 = .ok (.iaload, 1) := by decide +kernel
theorem dX8_struck_64 : decode cX8_struck 64 = .ok (.iadd, 1) := by decide +kernel
theorem dX8_struck_65 : decode cX8_struck 65 = .ok (.iastore, 1) := by decide +kernel
theorem dX8_struck_66 : decode cX8_struck 66 = .ok (.iinc 4 1, 3) := by decide +kernel
theorem dX8_struck_69 : decode cX8_struck 69 = .ok (.goto (-31), 3) := by decide +kernel
theorem dX8_struck_72 : decode cX8_struck 72 = .ok (.iload_n 2, 1) := by decide +kernel
theorem dX8_struck_73 : decode cX8_struck 73 = .ok (.aload_n 0, 1) := by decide +kernel
theorem dX8_struck_74 : decode cX8_struck 74 = .ok (.getfield 52, 3) := by decide +kernel
theorem dX8_struck_77 : decode cX8_struck 77 = .ok (.iload_n 3, 1) := by decide +kernel
theorem dX8_struck_78 : decode cX8_struck 78 = .ok (.iaload, 1) := by decide +kernel
theorem dX8_struck_79 : decode cX8_struck 79 = .ok (.ifCond .le 12, 3) := by decide +kernel
theorem dX8_struck_82 : decode cX8_struck 82 = .ok (.aload_n 0, 1) := by decide +kernel
theorem dX8_struck_83 : decode cX8_struck 83 = .ok (.getfield 52, 3) := by decide +kernel
theorem dX8_struck_86 : decode cX8_struck 86 = .ok (.iload_n 3, 1) := by decide +kernel
theorem dX8_struck_87 : decode cX8_struck 87 = .ok (.iaload, 1) := by decide +kernel
theorem dX8_struck_88 : decode cX8_struck 88 = .ok (.goto 4, 3) := by decide +kernel
theorem dX8_struck_91 : decode cX8_struck 91 = .ok (.iconst 0, 1) := by decide +kernel
theorem dX8_struck_92 : decode cX8_struck 92 = .ok (.iadd, 1) := by decide +kernel
theorem dX8_struck_93 : decode cX8_struck 93 = .ok (.istore_n 2, 1) := by decide +kernel
theorem dX8_struck_94 : decode cX8_struck 94 = .ok (.iinc 3 1, 3) := by decide +kernel
theorem dX8_struck_97 : decode cX8_struck 97 = .ok (.goto (-80), 3) := by decide +kernel
theorem dX8_struck_100 : decode cX8_struck 100 = .ok (.iload_n 1, 1) := by decide +kernel
theorem dX8_struck_101 : decode cX8_struck 101 = .ok (.iconst 1, 1) := by decide +kernel
theorem dX8_struck_102 : decode cX8_struck 102 = .ok (.if_icmp .ne 5, 3) := by decide +kernel
theorem dX8_struck_105 : decode cX8_struck 105 = .ok (.iload_n 2, 1) := by decide +kernel
theorem dX8_struck_106 : decode cX8_struck 106 = .ok (.ireturn, 1) := by decide +kernel
theorem dX8_struck_107 : decode cX8_struck 107 = .ok (.iconst 1, 1) := by decide +kernel
theorem dX8_struck_108 : decode cX8_struck 108 = .ok (.istore_n 3, 1) := by decide +kernel
theorem dX8_struck_109 : decode cX8_struck 109 = .ok (.iload_n 3, 1) := by decide +kernel
theorem dX8_struck_110 : decode cX8_struck 110 = .ok (.bipush 64, 2) := by decide +kernel
theorem dX8_struck_112 : decode cX8_struck 112 = .ok (.if_icmp .ge 20, 3) := by decide +kernel
theorem dX8_struck_115 : decode cX8_struck 115 = .ok (.aload_n 0, 1) := by decide +kernel
theorem dX8_struck_116 : decode cX8_struck 116 = .ok (.getfield 55, 3) := by decide +kernel
theorem dX8_struck_119 : decode cX8_struck 119 = .ok (.iload_n 3, 1) := by decide +kernel
theorem dX8_struck_120 : decode cX8_struck 120 = .ok (.aload_n 0, 1) := by decide +kernel
theorem dX8_struck_121 : decode cX8_struck 121 = .ok (.iload_n 3, 1) := by decide +kernel
theorem dX8_struck_122 : decode cX8_struck 122 = .ok (.invokevirtual 246, 3) := by decide +kernel
theorem dX8_struck_125 : decode cX8_struck 125 = .ok (.iastore, 1) := by decide +kernel
theorem dX8_struck_126 : decode cX8_struck 126 = .ok (.iinc 3 1, 3) := by decide +kernel
theorem dX8_struck_129 : decode cX8_struck 129 = .ok (.goto (-20), 3) := by decide +kernel
theorem dX8_struck_132 : decode cX8_struck 132 = .ok (.bipush 6, 2) := by decide +kernel
theorem dX8_struck_134 : decode cX8_struck 134 = .ok (.aload_n 0, 1) := by decide +kernel
theorem dX8_struck_135 : decode cX8_struck 135 = .ok (.getfield 55, 3) := by decide +kernel
theorem dX8_struck_138 : decode cX8_struck 138 = .ok (.bipush 63, 2) := by decide +kernel
theorem dX8_struck_140 : decode cX8_struck 140 = .ok (.iaload, 1) := by decide +kernel
theorem dX8_struck_141 : decode cX8_struck 141 = .ok (.isub, 1) := by decide +kernel
theorem dX8_struck_142 : decode cX8_struck 142 = .ok (.ireturn, 1) := by decide +kernel
theorem dX8_prints_0 : decode cX8_prints 0 = .ok (.iload_n 1, 1) := by decide +kernel
theorem dX8_prints_1 : decode cX8_prints 1 = .ok (.i2l, 1) := by decide +kernel
theorem dX8_prints_2 : decode cX8_prints 2 = .ok (.lconst 1, 1) := by decide +kernel
theorem dX8_prints_3 : decode cX8_prints 3 = .ok (.ldc2_w 151, 3) := by decide +kernel
theorem dX8_prints_6 : decode cX8_prints 6 = .ok (.invokestatic 80, 3) := by decide +kernel
theorem dX8_prints_9 : decode cX8_prints 9 = .ok (.ifCond .ne 6, 3) := by decide +kernel
theorem dX8_prints_12 : decode cX8_prints 12 = .ok (.bipush (-2), 2) := by decide +kernel
theorem dX8_prints_14 : decode cX8_prints 14 = .ok (.ireturn, 1) := by decide +kernel
theorem dX8_prints_15 : decode cX8_prints 15 = .ok (.bipush (-6), 2) := by decide +kernel
theorem dX8_prints_17 : decode cX8_prints 17 = .ok (.istore_n 2, 1) := by decide +kernel
theorem dX8_prints_18 : decode cX8_prints 18 = .ok (.iconst 0, 1) := by decide +kernel
theorem dX8_prints_19 : decode cX8_prints 19 = .ok (.istore_n 3, 1) := by decide +kernel
theorem dX8_prints_20 : decode cX8_prints 20 = .ok (.iload_n 3, 1) := by decide +kernel
theorem dX8_prints_21 : decode cX8_prints 21 = .ok (.sipush 999, 3) := by decide +kernel
theorem dX8_prints_24 : decode cX8_prints 24 = .ok (.if_icmp .gt 38, 3) := by decide +kernel
theorem dX8_prints_27 : decode cX8_prints 27 = .ok (.aload_n 0, 1) := by decide +kernel
theorem dX8_prints_28 : decode cX8_prints 28 = .ok (.invokevirtual 153, 3) := by decide +kernel
theorem dX8_prints_31 : decode cX8_prints 31 = .ok (.aload_n 0, 1) := by decide +kernel
theorem dX8_prints_32 : decode cX8_prints 32 = .ok (.invokevirtual 157, 3) := by decide +kernel
theorem dX8_prints_35 : decode cX8_prints 35 = .ok (.i2l, 1) := by decide +kernel
theorem dX8_prints_36 : decode cX8_prints 36 = .ok (.ldc2_w 151, 3) := by decide +kernel
theorem dX8_prints_39 : decode cX8_prints 39 = .ok (.iload_n 3, 1) := by decide +kernel
theorem dX8_prints_40 : decode cX8_prints 40 = .ok (.i2l, 1) := by decide +kernel
theorem dX8_prints_41 : decode cX8_prints 41 = .ok (.lmul, 1) := by decide +kernel
theorem dX8_prints_42 : decode cX8_prints 42 = .ok (.ladd, 1) := by decide +kernel
theorem dX8_prints_43 : decode cX8_prints 43 = .ok (.invokestatic 160, 3) := by decide +kernel
theorem dX8_prints_46 : decode cX8_prints 46 = .ok (.iload_n 1, 1) := by decide +kernel
theorem dX8_prints_47 : decode cX8_prints 47 = .ok (.if_icmp .lt 7, 3) := by decide +kernel
theorem dX8_prints_50 : decode cX8_prints 50 = .ok (.iload_n 3, 1) := by decide +kernel
theorem dX8_prints_51 : decode cX8_prints 51 = .ok (.goto 4, 3) := by decide +kernel
theorem dX8_prints_54 : decode cX8_prints 54 = .ok (.iload_n 2, 1) := by decide +kernel
theorem dX8_prints_55 : decode cX8_prints 55 = .ok (.istore_n 2, 1) := by decide +kernel
theorem dX8_prints_56 : decode cX8_prints 56 = .ok (.iinc 3 1, 3) := by decide +kernel
theorem dX8_prints_59 : decode cX8_prints 59 = .ok (.goto (-39), 3) := by decide +kernel
theorem dX8_prints_62 : decode cX8_prints 62 = .ok (.iload_n 2, 1) := by decide +kernel
theorem dX8_prints_63 : decode cX8_prints 63 = .ok (.ireturn, 1) := by decide +kernel
theorem dX8_pricesOf_0 : decode cX8_pricesOf 0 = .ok (.iconst 0, 1) := by decide +kernel
theorem dX8_pricesOf_1 : decode cX8_pricesOf 1 = .ok (.istore_n 2, 1) := by decide +kernel
theorem dX8_pricesOf_2 : decode cX8_pricesOf 2 = .ok (.iconst 0, 1) := by decide +kernel
theorem dX8_pricesOf_3 : decode cX8_pricesOf 3 = .ok (.istore_n 3, 1) := by decide +kernel
theorem dX8_pricesOf_4 : decode cX8_pricesOf 4 = .ok (.iload_n 3, 1) := by decide +kernel
theorem dX8_pricesOf_5 : decode cX8_pricesOf 5 = .ok (.bipush 8, 2) := by decide +kernel
theorem dX8_pricesOf_7 : decode cX8_pricesOf 7 = .ok (.if_icmp .ge 31, 3) := by decide +kernel
theorem dX8_pricesOf_10 : decode cX8_pricesOf 10 = .ok (.iload_n 2, 1) := by decide +kernel
theorem dX8_pricesOf_11 : decode cX8_pricesOf 11 = .ok (.iload_n 1, 1) := by decide +kernel
theorem dX8_pricesOf_12 : decode cX8_pricesOf 12 = .ok (.iload_n 3, 1) := by decide +kernel
theorem dX8_pricesOf_13 : decode cX8_pricesOf 13 = .ok (.ishr, 1) := by decide +kernel
theorem dX8_pricesOf_14 : decode cX8_pricesOf 14 = .ok (.iconst 1, 1) := by decide +kernel
theorem dX8_pricesOf_15 : decode cX8_pricesOf 15 = .ok (.iand, 1) := by decide +kernel
theorem dX8_pricesOf_16 : decode cX8_pricesOf 16 = .ok (.iconst 1, 1) := by decide +kernel
theorem dX8_pricesOf_17 : decode cX8_pricesOf 17 = .ok (.if_icmp .ne 12, 3) := by decide +kernel
theorem dX8_pricesOf_20 : decode cX8_pricesOf 20 = .ok (.aload_n 0, 1) := by decide +kernel
theorem dX8_pricesOf_21 : decode cX8_pricesOf 21 = .ok (.getfield 19, 3) := by decide +kernel
theorem dX8_pricesOf_24 : decode cX8_pricesOf 24 = .ok (.iload_n 3, 1) := by decide +kernel
theorem dX8_pricesOf_25 : decode cX8_pricesOf 25 = .ok (.iaload, 1) := by decide +kernel
theorem dX8_pricesOf_26 : decode cX8_pricesOf 26 = .ok (.goto 4, 3) := by decide +kernel
theorem dX8_pricesOf_29 : decode cX8_pricesOf 29 = .ok (.iconst 0, 1) := by decide +kernel
theorem dX8_pricesOf_30 : decode cX8_pricesOf 30 = .ok (.iadd, 1) := by decide +kernel
theorem dX8_pricesOf_31 : decode cX8_pricesOf 31 = .ok (.istore_n 2, 1) := by decide +kernel
theorem dX8_pricesOf_32 : decode cX8_pricesOf 32 = .ok (.iinc 3 1, 3) := by decide +kernel
theorem dX8_pricesOf_35 : decode cX8_pricesOf 35 = .ok (.goto (-31), 3) := by decide +kernel
theorem dX8_pricesOf_38 : decode cX8_pricesOf 38 = .ok (.iload_n 2, 1) := by decide +kernel
theorem dX8_pricesOf_39 : decode cX8_pricesOf 39 = .ok (.ireturn, 1) := by decide +kernel
theorem dX8_buys_0 : decode cX8_buys 0 = .ok (.iload_n 1, 1) := by decide +kernel
theorem dX8_buys_1 : decode cX8_buys 1 = .ok (.i2l, 1) := by decide +kernel
theorem dX8_buys_2 : decode cX8_buys 2 = .ok (.lconst 0, 1) := by decide +kernel
theorem dX8_buys_3 : decode cX8_buys 3 = .ok (.ldc2_w 88, 3) := by decide +kernel
theorem dX8_buys_6 : decode cX8_buys 6 = .ok (.invokestatic 80, 3) := by decide +kernel
theorem dX8_buys_9 : decode cX8_buys 9 = .ok (.ifCond .eq 13, 3) := by decide +kernel
theorem dX8_buys_12 : decode cX8_buys 12 = .ok (.iload_n 2, 1) := by decide +kernel
theorem dX8_buys_13 : decode cX8_buys 13 = .ok (.i2l, 1) := by decide +kernel
theorem dX8_buys_14 : decode cX8_buys 14 = .ok (.lconst 0, 1) := by decide +kernel
theorem dX8_buys_15 : decode cX8_buys 15 = .ok (.lconst 1, 1) := by decide +kernel
theorem dX8_buys_16 : decode cX8_buys 16 = .ok (.invokestatic 80, 3) := by decide +kernel
theorem dX8_buys_19 : decode cX8_buys 19 = .ok (.ifCond .ne 6, 3) := by decide +kernel
theorem dX8_buys_22 : decode cX8_buys 22 = .ok (.bipush (-2), 2) := by decide +kernel
theorem dX8_buys_24 : decode cX8_buys 24 = .ok (.ireturn, 1) := by decide +kernel
theorem dX8_buys_25 : decode cX8_buys 25 = .ok (.aload_n 0, 1) := by decide +kernel
theorem dX8_buys_26 : decode cX8_buys 26 = .ok (.bipush (-6), 2) := by decide +kernel
theorem dX8_buys_28 : decode cX8_buys 28 = .ok (.invokevirtual 229, 3) := by decide +kernel
theorem dX8_buys_31 : decode cX8_buys 31 = .ok (.istore_n 3, 1) := by decide +kernel
theorem dX8_buys_32 : decode cX8_buys 32 = .ok (.iconst 0, 1) := by decide +kernel
theorem dX8_buys_33 : decode cX8_buys 33 = .ok (.istore 4, 2) := by decide +kernel
theorem dX8_buys_35 : decode cX8_buys 35 = .ok (.iconst 1, 1) := by decide +kernel
theorem dX8_buys_36 : decode cX8_buys 36 = .ok (.istore 5, 2) := by decide +kernel
theorem dX8_buys_38 : decode cX8_buys 38 = .ok (.iload 5, 2) := by decide +kernel
theorem dX8_buys_40 : decode cX8_buys 40 = .ok (.sipush 256, 3) := by decide +kernel
theorem dX8_buys_43 : decode cX8_buys 43 = .ok (.if_icmp .ge 64, 3) := by decide +kernel
theorem dX8_buys_46 : decode cX8_buys 46 = .ok (.iload 5, 2) := by decide +kernel
theorem dX8_buys_48 : decode cX8_buys 48 = .ok (.iload_n 3, 1) := by decide +kernel
theorem dX8_buys_49 : decode cX8_buys 49 = .ok (.iconst (-1), 1) := by decide +kernel
theorem dX8_buys_50 : decode cX8_buys 50 = .ok (.ixor, 1) := by decide +kernel
theorem dX8_buys_51 : decode cX8_buys 51 = .ok (.iand, 1) := by decide +kernel
theorem dX8_buys_52 : decode cX8_buys 52 = .ok (.ifCond .ne 17, 3) := by decide +kernel
theorem dX8_buys_55 : decode cX8_buys 55 = .ok (.aload_n 0, 1) := by decide +kernel
theorem dX8_buys_56 : decode cX8_buys 56 = .ok (.iload 5, 2) := by decide +kernel
theorem dX8_buys_58 : decode cX8_buys 58 = .ok (.invokevirtual 249, 3) := by decide +kernel
theorem dX8_buys_61 : decode cX8_buys 61 = .ok (.iload_n 1, 1) := by decide +kernel
theorem dX8_buys_62 : decode cX8_buys 62 = .ok (.if_icmp .gt 7, 3) := by decide +kernel
theorem dX8_buys_65 : decode cX8_buys 65 = .ok (.iconst 1, 1) := by decide +kernel
theorem dX8_buys_66 : decode cX8_buys 66 = .ok (.goto 4, 3) := by decide +kernel
theorem dX8_buys_69 : decode cX8_buys 69 = .ok (.iconst 0, 1) := by decide +kernel
theorem dX8_buys_70 : decode cX8_buys 70 = .ok (.istore 6, 2) := by decide +kernel
theorem dX8_buys_72 : decode cX8_buys 72 = .ok (.iload 6, 2) := by decide +kernel
theorem dX8_buys_74 : decode cX8_buys 74 = .ok (.ifCond .eq 23, 3) := by decide +kernel
theorem dX8_buys_77 : decode cX8_buys 77 = .ok (.aload_n 0, 1) := by decide +kernel
theorem dX8_buys_78 : decode cX8_buys 78 = .ok (.iload 5, 2) := by decide +kernel
theorem dX8_buys_80 : decode cX8_buys 80 = .ok (.invokevirtual 249, 3) := by decide +kernel
theorem dX8_buys_83 : decode cX8_buys 83 = .ok (.aload_n 0, 1) := by decide +kernel
theorem dX8_buys_84 : decode cX8_buys 84 = .ok (.iload 4, 2) := by decide +kernel
theorem dX8_buys_86 : decode cX8_buys 86 = .ok (.invokevirtual 249, 3) := by decide +kernel
theorem dX8_buys_89 : decode cX8_buys 89 = .ok (.if_icmp .le 8, 3) := by decide +kernel
theorem dX8_buys_92 : decode cX8_buys 92 = .ok (.iload 5, 2) := by decide +kernel
theorem dX8_buys_94 : decode cX8_buys 94 = .ok (.goto 5, 3) := by decide +kernel
theorem dX8_buys_97 : decode cX8_buys 97 = .ok (.iload 4, 2) := by decide +kernel
theorem dX8_buys_99 : decode cX8_buys 99 = .ok (.istore 4, 2) := by decide +kernel
theorem dX8_buys_101 : decode cX8_buys 101 = .ok (.iinc 5 1, 3) := by decide +kernel
theorem dX8_buys_104 : decode cX8_buys 104 = .ok (.goto (-66), 3) := by decide +kernel
theorem dX8_buys_107 : decode cX8_buys 107 = .ok (.iload_n 2, 1) := by decide +kernel
theorem dX8_buys_108 : decode cX8_buys 108 = .ok (.ifCond .ne 12, 3) := by decide +kernel
theorem dX8_buys_111 : decode cX8_buys 111 = .ok (.aload_n 0, 1) := by decide +kernel
theorem dX8_buys_112 : decode cX8_buys 112 = .ok (.iload 4, 2) := by decide +kernel
theorem dX8_buys_114 : decode cX8_buys 114 = .ok (.invokevirtual 249, 3) := by decide +kernel
theorem dX8_buys_117 : decode cX8_buys 117 = .ok (.goto 5, 3) := by decide +kernel
theorem dX8_buys_120 : decode cX8_buys 120 = .ok (.iload 4, 2) := by decide +kernel
theorem dX8_buys_122 : decode cX8_buys 122 = .ok (.ireturn, 1) := by decide +kernel
theorem dX8_runs_0 : decode cX8_runs 0 = .ok (.iload_n 1, 1) := by decide +kernel
theorem dX8_runs_1 : decode cX8_runs 1 = .ok (.i2l, 1) := by decide +kernel
theorem dX8_runs_2 : decode cX8_runs 2 = .ok (.lconst 1, 1) := by decide +kernel
theorem dX8_runs_3 : decode cX8_runs 3 = .ok (.ldc2_w 96, 3) := by decide +kernel
theorem dX8_runs_6 : decode cX8_runs 6 = .ok (.invokestatic 80, 3) := by decide +kernel
theorem dX8_runs_9 : decode cX8_runs 9 = .ok (.ifCond .eq 27, 3) := by decide +kernel
theorem dX8_runs_12 : decode cX8_runs 12 = .ok (.iload_n 2, 1) := by decide +kernel
theorem dX8_runs_13 : decode cX8_runs 13 = .ok (.i2l, 1) := by decide +kernel
theorem dX8_runs_14 : decode cX8_runs 14 = .ok (.lconst 0, 1) := by decide +kernel
theorem dX8_runs_15 : decode cX8_runs 15 = .ok (.ldc2_w 252, 3) := by decide +kernel
theorem dX8_runs_18 : decode cX8_runs 18 = .ok (.invokestatic 80, 3) := by decide +kernel
theorem dX8_runs_21 : decode cX8_runs 21 = .ok (.ifCond .eq 15, 3) := by decide +kernel
theorem dX8_runs_24 : decode cX8_runs 24 = .ok (.iload_n 3, 1) := by decide +kernel
theorem dX8_runs_25 : decode cX8_runs 25 = .ok (.i2l, 1) := by decide +kernel
theorem dX8_runs_26 : decode cX8_runs 26 = .ok (.lconst 1, 1) := by decide +kernel
theorem dX8_runs_27 : decode cX8_runs 27 = .ok (.ldc2_w 151, 3) := by decide +kernel
theorem dX8_runs_30 : decode cX8_runs 30 = .ok (.invokestatic 80, 3) := by decide +kernel
theorem dX8_runs_33 : decode cX8_runs 33 = .ok (.ifCond .ne 6, 3) := by decide +kernel
theorem dX8_runs_36 : decode cX8_runs 36 = .ok (.bipush (-2), 2) := by decide +kernel
theorem dX8_runs_38 : decode cX8_runs 38 = .ok (.ireturn, 1) := by decide +kernel
theorem dX8_runs_39 : decode cX8_runs 39 = .ok (.iload_n 1, 1) := by decide +kernel
theorem dX8_runs_40 : decode cX8_runs 40 = .ok (.i2l, 1) := by decide +kernel
theorem dX8_runs_41 : decode cX8_runs 41 = .ok (.lstore 4, 2) := by decide +kernel
theorem dX8_runs_43 : decode cX8_runs 43 = .ok (.iconst 0, 1) := by decide +kernel
theorem dX8_runs_44 : decode cX8_runs 44 = .ok (.istore 6, 2) := by decide +kernel
theorem dX8_runs_46 : decode cX8_runs 46 = .ok (.iload 6, 2) := by decide +kernel
theorem dX8_runs_48 : decode cX8_runs 48 = .ok (.bipush 100, 2) := by decide +kernel
theorem dX8_runs_50 : decode cX8_runs 50 = .ok (.if_icmp .gt 54, 3) := by decide +kernel
theorem dX8_runs_53 : decode cX8_runs 53 = .ok (.aload_n 0, 1) := by decide +kernel
theorem dX8_runs_54 : decode cX8_runs 54 = .ok (.invokevirtual 153, 3) := by decide +kernel
theorem dX8_runs_57 : decode cX8_runs 57 = .ok (.lload 4, 2) := by decide +kernel
theorem dX8_runs_59 : decode cX8_runs 59 = .ok (.invokestatic 160, 3) := by decide +kernel
theorem dX8_runs_62 : decode cX8_runs 62 = .ok (.istore 7, 2) := by decide +kernel
theorem dX8_runs_64 : decode cX8_runs 64 = .ok (.iload 7, 2) := by decide +kernel
theorem dX8_runs_66 : decode cX8_runs 66 = .ok (.iload_n 3, 1) := by decide +kernel
theorem dX8_runs_67 : decode cX8_runs 67 = .ok (.if_icmp .ge 6, 3) := by decide +kernel
theorem dX8_runs_70 : decode cX8_runs 70 = .ok (.iload 6, 2) := by decide +kernel
theorem dX8_runs_72 : decode cX8_runs 72 = .ok (.ireturn, 1) := by decide +kernel
theorem dX8_runs_73 : decode cX8_runs 73 = .ok (.lload 4, 2) := by decide +kernel
theorem dX8_runs_75 : decode cX8_runs 75 = .ok (.lload 4, 2) := by decide +kernel
theorem dX8_runs_77 : decode cX8_runs 77 = .ok (.iload_n 2, 1) := by decide +kernel
theorem dX8_runs_78 : decode cX8_runs 78 = .ok (.i2l, 1) := by decide +kernel
theorem dX8_runs_79 : decode cX8_runs 79 = .ok (.lmul, 1) := by decide +kernel
theorem dX8_runs_80 : decode cX8_runs 80 = .ok (.ldc2_w 151, 3) := by decide +kernel
theorem dX8_runs_83 : decode cX8_runs 83 = .ok (.ldiv, 1) := by decide +kernel
theorem dX8_runs_84 : decode cX8_runs 84 = .ok (.ldc2_w 151, 3) := by decide +kernel
theorem dX8_runs_87 : decode cX8_runs 87 = .ok (.bipush 100, 2) := by decide +kernel
theorem dX8_runs_89 : decode cX8_runs 89 = .ok (.iload 7, 2) := by decide +kernel
theorem dX8_runs_91 : decode cX8_runs 91 = .ok (.isub, 1) := by decide +kernel
theorem dX8_runs_92 : decode cX8_runs 92 = .ok (.i2l, 1) := by decide +kernel
theorem dX8_runs_93 : decode cX8_runs 93 = .ok (.lmul, 1) := by decide +kernel
theorem dX8_runs_94 : decode cX8_runs 94 = .ok (.ladd, 1) := by decide +kernel
theorem dX8_runs_95 : decode cX8_runs 95 = .ok (.ladd, 1) := by decide +kernel
theorem dX8_runs_96 : decode cX8_runs 96 = .ok (.lstore 4, 2) := by decide +kernel
theorem dX8_runs_98 : decode cX8_runs 98 = .ok (.iinc 6 1, 3) := by decide +kernel
theorem dX8_runs_101 : decode cX8_runs 101 = .ok (.goto (-55), 3) := by decide +kernel
theorem dX8_runs_104 : decode cX8_runs 104 = .ok (.bipush (-6), 2) := by decide +kernel
theorem dX8_runs_106 : decode cX8_runs 106 = .ok (.ireturn, 1) := by decide +kernel
theorem dX8_wages_0 : decode cX8_wages 0 = .ok (.iload_n 1, 1) := by decide +kernel
theorem dX8_wages_1 : decode cX8_wages 1 = .ok (.i2l, 1) := by decide +kernel
theorem dX8_wages_2 : decode cX8_wages 2 = .ok (.lconst 0, 1) := by decide +kernel
theorem dX8_wages_3 : decode cX8_wages 3 = .ok (.ldc2_w 254, 3) := by decide +kernel
theorem dX8_wages_6 : decode cX8_wages 6 = .ok (.invokestatic 80, 3) := by decide +kernel
theorem dX8_wages_9 : decode cX8_wages 9 = .ok (.ifCond .eq 15, 3) := by decide +kernel
theorem dX8_wages_12 : decode cX8_wages 12 = .ok (.iload_n 2, 1) := by decide +kernel
theorem dX8_wages_13 : decode cX8_wages 13 = .ok (.i2l, 1) := by decide +kernel
theorem dX8_wages_14 : decode cX8_wages 14 = .ok (.lconst 0, 1) := by decide +kernel
theorem dX8_wages_15 : decode cX8_wages 15 = .ok (.ldc2_w 256, 3) := by decide +kernel
theorem dX8_wages_18 : decode cX8_wages 18 = .ok (.invokestatic 80, 3) := by decide +kernel
theorem dX8_wages_21 : decode cX8_wages 21 = .ok (.ifCond .ne 6, 3) := by decide +kernel
theorem dX8_wages_24 : decode cX8_wages 24 = .ok (.bipush (-2), 2) := by decide +kernel
theorem dX8_wages_26 : decode cX8_wages 26 = .ok (.ireturn, 1) := by decide +kernel
theorem dX8_wages_27 : decode cX8_wages 27 = .ok (.iload_n 1, 1) := by decide +kernel
theorem dX8_wages_28 : decode cX8_wages 28 = .ok (.istore_n 3, 1) := by decide +kernel
theorem dX8_wages_29 : decode cX8_wages 29 = .ok (.bipush 8, 2) := by decide +kernel
theorem dX8_wages_31 : decode cX8_wages 31 = .ok (.istore 4, 2) := by decide +kernel
theorem dX8_wages_33 : decode cX8_wages 33 = .ok (.iload 4, 2) := by decide +kernel
theorem dX8_wages_35 : decode cX8_wages 35 = .ok (.ifCond .lt 25, 3) := by decide +kernel
theorem dX8_wages_38 : decode cX8_wages 38 = .ok (.aload_n 0, 1) := by decide +kernel
theorem dX8_wages_39 : decode cX8_wages 39 = .ok (.getfield 58, 3) := by decide +kernel
theorem dX8_wages_42 : decode cX8_wages 42 = .ok (.iload 4, 2) := by decide +kernel
theorem dX8_wages_44 : decode cX8_wages 44 = .ok (.iload_n 3, 1) := by decide +kernel
theorem dX8_wages_45 : decode cX8_wages 45 = .ok (.bipush 10, 2) := by decide +kernel
theorem dX8_wages_47 : decode cX8_wages 47 = .ok (.irem, 1) := by decide +kernel
theorem dX8_wages_48 : decode cX8_wages 48 = .ok (.iastore, 1) := by decide +kernel
theorem dX8_wages_49 : decode cX8_wages 49 = .ok (.iload_n 3, 1) := by decide +kernel
theorem dX8_wages_50 : decode cX8_wages 50 = .ok (.bipush 10, 2) := by decide +kernel
theorem dX8_wages_52 : decode cX8_wages 52 = .ok (.idiv, 1) := by decide +kernel
theorem dX8_wages_53 : decode cX8_wages 53 = .ok (.istore_n 3, 1) := by decide +kernel
theorem dX8_wages_54 : decode cX8_wages 54 = .ok (.iinc 4 (-1), 3) := by decide +kernel
theorem dX8_wages_57 : decode cX8_wages 57 = .ok (.goto (-24), 3) := by decide +kernel
theorem dX8_wages_60 : decode cX8_wages 60 = .ok (.iconst 0, 1) := by decide +kernel
theorem dX8_wages_61 : decode cX8_wages 61 = .ok (.istore 4, 2) := by decide +kernel
theorem dX8_wages_63 : decode cX8_wages 63 = .ok (.iconst 0, 1) := by decide +kernel
theorem dX8_wages_64 : decode cX8_wages 64 = .ok (.istore 5, 2) := by decide +kernel
theorem dX8_wages_66 : decode cX8_wages 66 = .ok (.iload 5, 2) := by decide +kernel
theorem dX8_wages_68 : decode cX8_wages 68 = .ok (.bipush 9, 2) := by decide +kernel
theorem dX8_wages_70 : decode cX8_wages 70 = .ok (.if_icmp .ge 61, 3) := by decide +kernel
theorem dX8_wages_73 : decode cX8_wages 73 = .ok (.iload 5, 2) := by decide +kernel
theorem dX8_wages_75 : decode cX8_wages 75 = .ok (.iload_n 2, 1) := by decide +kernel
theorem dX8_wages_76 : decode cX8_wages 76 = .ok (.if_icmp .ge 7, 3) := by decide +kernel
theorem dX8_wages_79 : decode cX8_wages 79 = .ok (.iconst 0, 1) := by decide +kernel
theorem dX8_wages_80 : decode cX8_wages 80 = .ok (.goto 12, 3) := by decide +kernel
theorem dX8_wages_83 : decode cX8_wages 83 = .ok (.aload_n 0, 1) := by decide +kernel
theorem dX8_wages_84 : decode cX8_wages 84 = .ok (.getfield 58, 3) := by decide +kernel
theorem dX8_wages_87 : decode cX8_wages 87 = .ok (.iload 5, 2) := by decide +kernel
theorem dX8_wages_89 : decode cX8_wages 89 = .ok (.iload_n 2, 1) := by decide +kernel
theorem dX8_wages_90 : decode cX8_wages 90 = .ok (.isub, 1) := by decide +kernel
theorem dX8_wages_91 : decode cX8_wages 91 = .ok (.iaload, 1) := by decide +kernel
theorem dX8_wages_92 : decode cX8_wages 92 = .ok (.istore 6, 2) := by decide +kernel
theorem dX8_wages_94 : decode cX8_wages 94 = .ok (.iload 4, 2) := by decide +kernel
theorem dX8_wages_96 : decode cX8_wages 96 = .ok (.aload_n 0, 1) := by decide +kernel
theorem dX8_wages_97 : decode cX8_wages 97 = .ok (.getfield 58, 3) := by decide +kernel
theorem dX8_wages_100 : decode cX8_wages 100 = .ok (.iload 5, 2) := by decide +kernel
theorem dX8_wages_102 : decode cX8_wages 102 = .ok (.iaload, 1) := by decide +kernel
theorem dX8_wages_103 : decode cX8_wages 103 = .ok (.iload 6, 2) := by decide +kernel
theorem dX8_wages_105 : decode cX8_wages 105 = .ok (.if_icmp .le 16, 3) := by decide +kernel
theorem dX8_wages_108 : decode cX8_wages 108 = .ok (.aload_n 0, 1) := by decide +kernel
theorem dX8_wages_109 : decode cX8_wages 109 = .ok (.getfield 58, 3) := by decide +kernel
theorem dX8_wages_112 : decode cX8_wages 112 = .ok (.iload 5, 2) := by decide +kernel
theorem dX8_wages_114 : decode cX8_wages 114 = .ok (.iaload, 1) := by decide +kernel
theorem dX8_wages_115 : decode cX8_wages 115 = .ok (.iload 6, 2) := by decide +kernel
theorem dX8_wages_117 : decode cX8_wages 117 = .ok (.isub, 1) := by decide +kernel
theorem dX8_wages_118 : decode cX8_wages 118 = .ok (.goto 4, 3) := by decide +kernel
theorem dX8_wages_121 : decode cX8_wages 121 = .ok (.iconst 0, 1) := by decide +kernel
theorem dX8_wages_122 : decode cX8_wages 122 = .ok (.iadd, 1) := by decide +kernel
theorem dX8_wages_123 : decode cX8_wages 123 = .ok (.istore 4, 2) := by decide +kernel
theorem dX8_wages_125 : decode cX8_wages 125 = .ok (.iinc 5 1, 3) := by decide +kernel
theorem dX8_wages_128 : decode cX8_wages 128 = .ok (.goto (-62), 3) := by decide +kernel
theorem dX8_wages_131 : decode cX8_wages 131 = .ok (.iload 4, 2) := by decide +kernel
theorem dX8_wages_133 : decode cX8_wages 133 = .ok (.ireturn, 1) := by decide +kernel
theorem dX8_lowest_0 : decode cX8_lowest 0 = .ok (.lload_n 2, 1) := by decide +kernel
theorem dX8_lowest_1 : decode cX8_lowest 1 = .ok (.lstore 5, 2) := by decide +kernel
theorem dX8_lowest_3 : decode cX8_lowest 3 = .ok (.lload_n 0, 1) := by decide +kernel
theorem dX8_lowest_4 : decode cX8_lowest 4 = .ok (.lstore 7, 2) := by decide +kernel
theorem dX8_lowest_6 : decode cX8_lowest 6 = .ok (.lload 7, 2) := by decide +kernel
theorem dX8_lowest_8 : decode cX8_lowest 8 = .ok (.lconst 0, 1) := by decide +kernel
theorem dX8_lowest_9 : decode cX8_lowest 9 = .ok (.lcmp, 1) := by decide +kernel
theorem dX8_lowest_10 : decode cX8_lowest 10 = .ok (.ifCond .eq 21, 3) := by decide +kernel
theorem dX8_lowest_13 : decode cX8_lowest 13 = .ok (.lload 5, 2) := by decide +kernel
theorem dX8_lowest_15 : decode cX8_lowest 15 = .ok (.lload 7, 2) := by decide +kernel
theorem dX8_lowest_17 : decode cX8_lowest 17 = .ok (.lrem, 1) := by decide +kernel
theorem dX8_lowest_18 : decode cX8_lowest 18 = .ok (.lstore 9, 2) := by decide +kernel
theorem dX8_lowest_20 : decode cX8_lowest 20 = .ok (.lload 7, 2) := by decide +kernel
theorem dX8_lowest_22 : decode cX8_lowest 22 = .ok (.lstore 5, 2) := by decide +kernel
theorem dX8_lowest_24 : decode cX8_lowest 24 = .ok (.lload 9, 2) := by decide +kernel
theorem dX8_lowest_26 : decode cX8_lowest 26 = .ok (.lstore 7, 2) := by decide +kernel
theorem dX8_lowest_28 : decode cX8_lowest 28 = .ok (.goto (-22), 3) := by decide +kernel
theorem dX8_lowest_31 : decode cX8_lowest 31 = .ok (.iload 4, 2) := by decide +kernel
theorem dX8_lowest_33 : decode cX8_lowest 33 = .ok (.ifCond .ne 10, 3) := by decide +kernel
theorem dX8_lowest_36 : decode cX8_lowest 36 = .ok (.lload_n 0, 1) := by decide +kernel
theorem dX8_lowest_37 : decode cX8_lowest 37 = .ok (.lload 5, 2) := by decide +kernel
theorem dX8_lowest_39 : decode cX8_lowest 39 = .ok (.ldiv, 1) := by decide +kernel
theorem dX8_lowest_40 : decode cX8_lowest 40 = .ok (.goto 7, 3) := by decide +kernel
theorem dX8_lowest_43 : decode cX8_lowest 43 = .ok (.lload_n 2, 1) := by decide +kernel
theorem dX8_lowest_44 : decode cX8_lowest 44 = .ok (.lload 5, 2) := by decide +kernel
theorem dX8_lowest_46 : decode cX8_lowest 46 = .ok (.ldiv, 1) := by decide +kernel
theorem dX8_lowest_47 : decode cX8_lowest 47 = .ok (.lreturn, 1) := by decide +kernel
theorem dX8_change_0 : decode cX8_change 0 = .ok (.iload_n 1, 1) := by decide +kernel
theorem dX8_change_1 : decode cX8_change 1 = .ok (.i2l, 1) := by decide +kernel
theorem dX8_change_2 : decode cX8_change 2 = .ok (.lconst 0, 1) := by decide +kernel
theorem dX8_change_3 : decode cX8_change 3 = .ok (.ldc2_w 258, 3) := by decide +kernel
theorem dX8_change_6 : decode cX8_change 6 = .ok (.invokestatic 80, 3) := by decide +kernel
theorem dX8_change_9 : decode cX8_change 9 = .ok (.ifCond .eq 49, 3) := by decide +kernel
theorem dX8_change_12 : decode cX8_change 12 = .ok (.iload_n 2, 1) := by decide +kernel
theorem dX8_change_13 : decode cX8_change 13 = .ok (.i2l, 1) := by decide +kernel
theorem dX8_change_14 : decode cX8_change 14 = .ok (.lconst 0, 1) := by decide +kernel
theorem dX8_change_15 : decode cX8_change 15 = .ok (.ldc2_w 256, 3) := by decide +kernel
theorem dX8_change_18 : decode cX8_change 18 = .ok (.invokestatic 80, 3) := by decide +kernel
theorem dX8_change_21 : decode cX8_change 21 = .ok (.ifCond .eq 37, 3) := by decide +kernel
theorem dX8_change_24 : decode cX8_change 24 = .ok (.iload_n 3, 1) := by decide +kernel
theorem dX8_change_25 : decode cX8_change 25 = .ok (.i2l, 1) := by decide +kernel
theorem dX8_change_26 : decode cX8_change 26 = .ok (.lconst 0, 1) := by decide +kernel
theorem dX8_change_27 : decode cX8_change 27 = .ok (.ldc2_w 260, 3) := by decide +kernel
theorem dX8_change_30 : decode cX8_change 30 = .ok (.invokestatic 80, 3) := by decide +kernel
theorem dX8_change_33 : decode cX8_change 33 = .ok (.ifCond .eq 25, 3) := by decide +kernel
theorem dX8_change_36 : decode cX8_change 36 = .ok (.iload 4, 2) := by decide +kernel
theorem dX8_change_38 : decode cX8_change 38 = .ok (.i2l, 1) := by decide +kernel
theorem dX8_change_39 : decode cX8_change 39 = .ok (.lconst 0, 1) := by decide +kernel
theorem dX8_change_40 : decode cX8_change 40 = .ok (.lconst 1, 1) := by decide +kernel
theorem dX8_change_41 : decode cX8_change 41 = .ok (.invokestatic 80, 3) := by decide +kernel
theorem dX8_change_44 : decode cX8_change 44 = .ok (.ifCond .eq 14, 3) := by decide +kernel
theorem dX8_change_47 : decode cX8_change 47 = .ok (.iload 5, 2) := by decide +kernel
theorem dX8_change_49 : decode cX8_change 49 = .ok (.i2l, 1) := by decide +kernel
theorem dX8_change_50 : decode cX8_change 50 = .ok (.lconst 0, 1) := by decide +kernel
theorem dX8_change_51 : decode cX8_change 51 = .ok (.lconst 1, 1) := by decide +kernel
theorem dX8_change_52 : decode cX8_change 52 = .ok (.invokestatic 80, 3) := by decide +kernel
theorem dX8_change_55 : decode cX8_change 55 = .ok (.ifCond .ne 7, 3) := by decide +kernel
theorem dX8_change_58 : decode cX8_change 58 = .ok (.ldc2_w 262, 3) := by decide +kernel
theorem dX8_change_61 : decode cX8_change 61 = .ok (.lreturn, 1) := by decide +kernel
theorem dX8_change_62 : decode cX8_change 62 = .ok (.iconst 0, 1) := by decide +kernel
theorem dX8_change_63 : decode cX8_change 63 = .ok (.istore 6, 2) := by decide +kernel
theorem dX8_change_65 : decode cX8_change 65 = .ok (.iload 6, 2) := by decide +kernel
theorem dX8_change_67 : decode cX8_change 67 = .ok (.bipush 70, 2) := by decide +kernel
theorem dX8_change_69 : decode cX8_change 69 = .ok (.if_icmp .ge 19, 3) := by decide +kernel
theorem dX8_change_72 : decode cX8_change 72 = .ok (.aload_n 0, 1) := by decide +kernel
theorem dX8_change_73 : decode cX8_change 73 = .ok (.getfield 61, 3) := by decide +kernel
theorem dX8_change_76 : decode cX8_change 76 = .ok (.iload 6, 2) := by decide +kernel
theorem dX8_change_78 : decode cX8_change 78 = .ok (.iload 6, 2) := by decide +kernel
theorem dX8_change_80 : decode cX8_change 80 = .ok (.i2l, 1) := by decide +kernel
theorem dX8_change_81 : decode cX8_change 81 = .ok (.lastore, 1) := by decide +kernel
theorem dX8_change_82 : decode cX8_change 82 = .ok (.iinc 6 1, 3) := by decide +kernel
theorem dX8_change_85 : decode cX8_change 85 = .ok (.goto (-20), 3) := by decide +kernel
theorem dX8_change_88 : decode cX8_change 88 = .ok (.lconst 1, 1) := by decide +kernel
theorem dX8_change_89 : decode cX8_change 89 = .ok (.lstore 6, 2) := by decide +kernel
theorem dX8_change_91 : decode cX8_change 91 = .ok (.iconst 1, 1) := by decide +kernel
theorem dX8_change_92 : decode cX8_change 92 = .ok (.istore 8, 2) := by decide +kernel
theorem dX8_change_94 : decode cX8_change 94 = .ok (.iconst 1, 1) := by decide +kernel
theorem dX8_change_95 : decode cX8_change 95 = .ok (.istore 9, 2) := by decide +kernel
theorem dX8_change_97 : decode cX8_change 97 = .ok (.iload 9, 2) := by decide +kernel
theorem dX8_change_99 : decode cX8_change 99 = .ok (.iload_n 2, 1) := by decide +kernel
theorem dX8_change_100 : decode cX8_change 100 = .ok (.if_icmp .gt 170, 3) := by decide +kernel
theorem dX8_change_103 : decode cX8_change 103 = .ok (.lload 6, 2) := by decide +kernel
theorem dX8_change_105 : decode cX8_change 105 = .ok (.ldc2_w 260, 3) := by decide +kernel
theorem dX8_change_108 : decode cX8_change 108 = .ok (.lmul, 1) := by decide +kernel
theorem dX8_change_109 : decode cX8_change 109 = .ok (.lstore 6, 2) := by decide +kernel
theorem dX8_change_111 : decode cX8_change 111 = .ok (.iconst 0, 1) := by decide +kernel
theorem dX8_change_112 : decode cX8_change 112 = .ok (.istore 10, 2) := by decide +kernel
theorem dX8_change_114 : decode cX8_change 114 = .ok (.iload 10, 2) := by decide +kernel
theorem dX8_change_116 : decode cX8_change 116 = .ok (.bipush 69, 2) := by decide +kernel
theorem dX8_change_118 : decode cX8_change 118 = .ok (.iload 9, 2) := by decide +kernel
theorem dX8_change_120 : decode cX8_change 120 = .ok (.isub, 1) := by decide +kernel
theorem dX8_change_121 : decode cX8_change 121 = .ok (.if_icmp .ge 110, 3) := by decide +kernel
theorem dX8_change_124 : decode cX8_change 124 = .ok (.iload_n 3, 1) := by decide +kernel
theorem dX8_change_125 : decode cX8_change 125 = .ok (.i2l, 1) := by decide +kernel
theorem dX8_change_126 : decode cX8_change 126 = .ok (.aload_n 0, 1) := by decide +kernel
theorem dX8_change_127 : decode cX8_change 127 = .ok (.getfield 61, 3) := by decide +kernel
theorem dX8_change_130 : decode cX8_change 130 = .ok (.iload 10, 2) := by decide +kernel
theorem dX8_change_132 : decode cX8_change 132 = .ok (.iconst 3, 1) := by decide +kernel
theorem dX8_change_133 : decode cX8_change 133 = .ok (.if_icmp .le 10, 3) := by decide +kernel
theorem dX8_change_136 : decode cX8_change 136 = .ok (.iload 10, 2) := by decide +kernel
theorem dX8_change_138 : decode cX8_change 138 = .ok (.iconst 3, 1) := by decide +kernel
theorem dX8_change_139 : decode cX8_change 139 = .ok (.isub, 1) := by decide +kernel
theorem dX8_change_140 : decode cX8_change 140 = .ok (.goto 4, 3) := by decide +kernel
theorem dX8_change_143 : decode cX8_change 143 = .ok (.iconst 0, 1) := by decide +kernel
theorem dX8_change_144 : decode cX8_change 144 = .ok (.laload, 1) := by decide +kernel
theorem dX8_change_145 : decode cX8_change 145 = .ok (.lmul, 1) := by decide +kernel
theorem dX8_change_146 : decode cX8_change 146 = .ok (.ldc2_w 260, 3) := by decide +kernel
theorem dX8_change_149 : decode cX8_change 149 = .ok (.iload_n 3, 1) := by decide +kernel
theorem dX8_change_150 : decode cX8_change 150 = .ok (.i2l, 1) := by decide +kernel
theorem dX8_change_151 : decode cX8_change 151 = .ok (.lsub, 1) := by decide +kernel
theorem dX8_change_152 : decode cX8_change 152 = .ok (.aload_n 0, 1) := by decide +kernel
theorem dX8_change_153 : decode cX8_change 153 = .ok (.getfield 61, 3) := by decide +kernel
theorem dX8_change_156 : decode cX8_change 156 = .ok (.iload 10, 2) := by decide +kernel
theorem dX8_change_158 : decode cX8_change 158 = .ok (.iconst 1, 1) := by decide +kernel
theorem dX8_change_159 : decode cX8_change 159 = .ok (.iadd, 1) := by decide +kernel
theorem dX8_change_160 : decode cX8_change 160 = .ok (.laload, 1) := by decide +kernel
theorem dX8_change_161 : decode cX8_change 161 = .ok (.lmul, 1) := by decide +kernel
theorem dX8_change_162 : decode cX8_change 162 = .ok (.ladd, 1) := by decide +kernel
theorem dX8_change_163 : decode cX8_change 163 = .ok (.lstore 11, 2) := by decide +kernel
theorem dX8_change_165 : decode cX8_change 165 = .ok (.iload 10, 2) := by decide +kernel
theorem dX8_change_167 : decode cX8_change 167 = .ok (.iload_n 1, 1) := by decide +kernel
theorem dX8_change_168 : decode cX8_change 168 = .ok (.if_icmp .ne 23, 3) := by decide +kernel
theorem dX8_change_171 : decode cX8_change 171 = .ok (.iload 10, 2) := by decide +kernel
theorem dX8_change_173 : decode cX8_change 173 = .ok (.i2l, 1) := by decide +kernel
theorem dX8_change_174 : decode cX8_change 174 = .ok (.lload 6, 2) := by decide +kernel
theorem dX8_change_176 : decode cX8_change 176 = .ok (.lmul, 1) := by decide +kernel
theorem dX8_change_177 : decode cX8_change 177 = .ok (.lload 11, 2) := by decide +kernel
theorem dX8_change_179 : decode cX8_change 179 = .ok (.lcmp, 1) := by decide +kernel
theorem dX8_change_180 : decode cX8_change 180 = .ok (.ifCond .lt 7, 3) := by decide +kernel
theorem dX8_change_183 : decode cX8_change 183 = .ok (.iconst 1, 1) := by decide +kernel
theorem dX8_change_184 : decode cX8_change 184 = .ok (.goto 9, 3) := by decide +kernel
theorem dX8_change_187 : decode cX8_change 187 = .ok (.iconst 0, 1) := by decide +kernel
theorem dX8_change_188 : decode cX8_change 188 = .ok (.goto 5, 3) := by decide +kernel
theorem dX8_change_191 : decode cX8_change 191 = .ok (.iload 8, 2) := by decide +kernel
theorem dX8_change_193 : decode cX8_change 193 = .ok (.istore 8, 2) := by decide +kernel
theorem dX8_change_195 : decode cX8_change 195 = .ok (.aload_n 0, 1) := by decide +kernel
theorem dX8_change_196 : decode cX8_change 196 = .ok (.getfield 65, 3) := by decide +kernel
theorem dX8_change_199 : decode cX8_change 199 = .ok (.iload 10, 2) := by decide +kernel
theorem dX8_change_201 : decode cX8_change 201 = .ok (.iload 10, 2) := by decide +kernel
theorem dX8_change_203 : decode cX8_change 203 = .ok (.i2l, 1) := by decide +kernel
theorem dX8_change_204 : decode cX8_change 204 = .ok (.lload 6, 2) := by decide +kernel
theorem dX8_change_206 : decode cX8_change 206 = .ok (.lmul, 1) := by decide +kernel
theorem dX8_change_207 : decode cX8_change 207 = .ok (.lload 11, 2) := by decide +kernel
theorem dX8_change_209 : decode cX8_change 209 = .ok (.lcmp, 1) := by decide +kernel
theorem dX8_change_210 : decode cX8_change 210 = .ok (.ifCond .lt 12, 3) := by decide +kernel
theorem dX8_change_213 : decode cX8_change 213 = .ok (.iload 10, 2) := by decide +kernel
theorem dX8_change_215 : decode cX8_change 215 = .ok (.i2l, 1) := by decide +kernel
theorem dX8_change_216 : decode cX8_change 216 = .ok (.lload 6, 2) := by decide +kernel
theorem dX8_change_218 : decode cX8_change 218 = .ok (.lmul, 1) := by decide +kernel
theorem dX8_change_219 : decode cX8_change 219 = .ok (.goto 5, 3) := by decide +kernel
theorem dX8_change_222 : decode cX8_change 222 = .ok (.lload 11, 2) := by decide +kernel
theorem dX8_change_224 : decode cX8_change 224 = .ok (.lastore, 1) := by decide +kernel
theorem dX8_change_225 : decode cX8_change 225 = .ok (.iinc 10 1, 3) := by decide +kernel
theorem dX8_change_228 : decode cX8_change 228 = .ok (.goto (-114), 3) := by decide +kernel
theorem dX8_change_231 : decode cX8_change 231 = .ok (.iconst 0, 1) := by decide +kernel
theorem dX8_change_232 : decode cX8_change 232 = .ok (.istore 10, 2) := by decide +kernel
theorem dX8_change_234 : decode cX8_change 234 = .ok (.iload 10, 2) := by decide +kernel
theorem dX8_change_236 : decode cX8_change 236 = .ok (.bipush 69, 2) := by decide +kernel
theorem dX8_change_238 : decode cX8_change 238 = .ok (.iload 9, 2) := by decide +kernel
theorem dX8_change_240 : decode cX8_change 240 = .ok (.isub, 1) := by decide +kernel
theorem dX8_change_241 : decode cX8_change 241 = .ok (.if_icmp .ge 23, 3) := by decide +kernel
theorem dX8_change_244 : decode cX8_change 244 = .ok (.aload_n 0, 1) := by decide +kernel
theorem dX8_change_245 : decode cX8_change 245 = .ok (.getfield 61, 3) := by decide +kernel
theorem dX8_change_248 : decode cX8_change 248 = .ok (.iload 10, 2) := by decide +kernel
theorem dX8_change_250 : decode cX8_change 250 = .ok (.aload_n 0, 1) := by decide +kernel
theorem dX8_change_251 : decode cX8_change 251 = .ok (.getfield 65, 3) := by decide +kernel
theorem dX8_change_254 : decode cX8_change 254 = .ok (.iload 10, 2) := by decide +kernel
theorem dX8_change_256 : decode cX8_change 256 = .ok (.laload, 1) := by decide +kernel
theorem dX8_change_257 : decode cX8_change 257 = .ok (.lastore, 1) := by decide +kernel
theorem dX8_change_258 : decode cX8_change 258 = .ok (.iinc 10 1, 3) := by decide +kernel
theorem dX8_change_261 : decode cX8_change 261 = .ok (.goto (-27), 3) := by decide +kernel
theorem dX8_change_264 : decode cX8_change 264 = .ok (.iinc 9 1, 3) := by decide +kernel
theorem dX8_change_267 : decode cX8_change 267 = .ok (.goto (-170), 3) := by decide +kernel
theorem dX8_change_270 : decode cX8_change 270 = .ok (.iload 4, 2) := by decide +kernel
theorem dX8_change_272 : decode cX8_change 272 = .ok (.iconst 1, 1) := by decide +kernel
theorem dX8_change_273 : decode cX8_change 273 = .ok (.if_icmp .ne 16, 3) := by decide +kernel
theorem dX8_change_276 : decode cX8_change 276 = .ok (.iload 8, 2) := by decide +kernel
theorem dX8_change_278 : decode cX8_change 278 = .ok (.ifCond .eq 7, 3) := by decide +kernel
theorem dX8_change_281 : decode cX8_change 281 = .ok (.lconst 1, 1) := by decide +kernel
theorem dX8_change_282 : decode cX8_change 282 = .ok (.goto 20, 3) := by decide +kernel
theorem dX8_change_285 : decode cX8_change 285 = .ok (.lconst 0, 1) := by decide +kernel
theorem dX8_change_286 : decode cX8_change 286 = .ok (.goto 16, 3) := by decide +kernel
theorem dX8_change_289 : decode cX8_change 289 = .ok (.aload_n 0, 1) := by decide +kernel
theorem dX8_change_290 : decode cX8_change 290 = .ok (.getfield 61, 3) := by decide +kernel
theorem dX8_change_293 : decode cX8_change 293 = .ok (.iload_n 1, 1) := by decide +kernel
theorem dX8_change_294 : decode cX8_change 294 = .ok (.laload, 1) := by decide +kernel
theorem dX8_change_295 : decode cX8_change 295 = .ok (.lload 6, 2) := by decide +kernel
theorem dX8_change_297 : decode cX8_change 297 = .ok (.iload 5, 2) := by decide +kernel
theorem dX8_change_299 : decode cX8_change 299 = .ok (.invokestatic 264, 3) := by decide +kernel
theorem dX8_change_302 : decode cX8_change 302 = .ok (.lreturn, 1) := by decide +kernel
theorem dX8_chooseOf_0 : decode cX8_chooseOf 0 = .ok (.iconst 0, 1) := by decide +kernel
theorem dX8_chooseOf_1 : decode cX8_chooseOf 1 = .ok (.istore_n 3, 1) := by decide +kernel
theorem dX8_chooseOf_2 : decode cX8_chooseOf 2 = .ok (.iload_n 3, 1) := by decide +kernel
theorem dX8_chooseOf_3 : decode cX8_chooseOf 3 = .ok (.bipush 30, 2) := by decide +kernel
theorem dX8_chooseOf_5 : decode cX8_chooseOf 5 = .ok (.if_icmp .gt 24, 3) := by decide +kernel
theorem dX8_chooseOf_8 : decode cX8_chooseOf 8 = .ok (.aload_n 0, 1) := by decide +kernel
theorem dX8_chooseOf_9 : decode cX8_chooseOf 9 = .ok (.getfield 68, 3) := by decide +kernel
theorem dX8_chooseOf_12 : decode cX8_chooseOf 12 = .ok (.iload_n 3, 1) := by decide +kernel
theorem dX8_chooseOf_13 : decode cX8_chooseOf 13 = .ok (.iload_n 3, 1) := by decide +kernel
theorem dX8_chooseOf_14 : decode cX8_chooseOf 14 = .ok (.ifCond .ne 7, 3) := by decide +kernel
theorem dX8_chooseOf_17 : decode cX8_chooseOf 17 = .ok (.lconst 1, 1) := by decide +kernel
theorem dX8_chooseOf_18 : decode cX8_chooseOf 18 = .ok (.goto 4, 3) := by decide +kernel
theorem dX8_chooseOf_21 : decode cX8_chooseOf 21 = .ok (.lconst 0, 1) := by decide +kernel
theorem dX8_chooseOf_22 : decode cX8_chooseOf 22 = .ok (.lastore, 1) := by decide +kernel
theorem dX8_chooseOf_23 : decode cX8_chooseOf 23 = .ok (.iinc 3 1, 3) := by decide +kernel
theorem dX8_chooseOf_26 : decode cX8_chooseOf 26 = .ok (.goto (-24), 3) := by decide +kernel
theorem dX8_chooseOf_29 : decode cX8_chooseOf 29 = .ok (.iconst 0, 1) := by decide +kernel
theorem dX8_chooseOf_30 : decode cX8_chooseOf 30 = .ok (.istore_n 3, 1) := by decide +kernel
theorem dX8_chooseOf_31 : decode cX8_chooseOf 31 = .ok (.iload_n 3, 1) := by decide +kernel
theorem dX8_chooseOf_32 : decode cX8_chooseOf 32 = .ok (.iload_n 1, 1) := by decide +kernel
theorem dX8_chooseOf_33 : decode cX8_chooseOf 33 = .ok (.if_icmp .ge 43, 3) := by decide +kernel
theorem dX8_chooseOf_36 : decode cX8_chooseOf 36 = .ok (.bipush 30, 2) := by decide +kernel
theorem dX8_chooseOf_38 : decode cX8_chooseOf 38 = .ok (.istore 4, 2) := by decide +kernel
theorem dX8_chooseOf_40 : decode cX8_chooseOf 40 = .ok (.iload 4, 2) := by decide +kernel
theorem dX8_chooseOf_42 : decode cX8_chooseOf 42 = .ok (.ifCond .le 28, 3) := by decide +kernel
theorem dX8_chooseOf_45 : decode cX8_chooseOf 45 = .ok (.aload_n 0, 1) := by decide +kernel
theorem dX8_chooseOf_46 : decode cX8_chooseOf 46 = .ok (.getfield 68, 3) := by decide +kernel
theorem dX8_chooseOf_49 : decode cX8_chooseOf 49 = .ok (.iload 4, 2) := by decide +kernel
theorem dX8_chooseOf_51 : decode cX8_chooseOf 51 = .ok (.dup2, 1) := by decide +kernel
theorem dX8_chooseOf_52 : decode cX8_chooseOf 52 = .ok (.laload, 1) := by decide +kernel
theorem dX8_chooseOf_53 : decode cX8_chooseOf 53 = .ok (.aload_n 0, 1) := by decide +kernel
theorem dX8_chooseOf_54 : decode cX8_chooseOf 54 = .ok (.getfield 68, 3) := by decide +kernel
theorem dX8_chooseOf_57 : decode cX8_chooseOf 57 = .ok (.iload 4, 2) := by decide +kernel
theorem dX8_chooseOf_59 : decode cX8_chooseOf 59 = .ok (.iconst 1, 1) := by decide +kernel
theorem dX8_chooseOf_60 : decode cX8_chooseOf 60 = .ok (.isub, 1) := by decide +kernel
theorem dX8_chooseOf_61 : decode cX8_chooseOf 61 = .ok (.laload, 1) := by decide +kernel
theorem dX8_chooseOf_62 : decode cX8_chooseOf 62 = .ok (.ladd, 1) := by decide +kernel
theorem dX8_chooseOf_63 : decode cX8_chooseOf 63 = .ok (.lastore, 1) := by decide +kernel
theorem dX8_chooseOf_64 : decode cX8_chooseOf 64 = .ok (.iinc 4 (-1), 3) := by decide +kernel
theorem dX8_chooseOf_67 : decode cX8_chooseOf 67 = .ok (.goto (-27), 3) := by decide +kernel
theorem dX8_chooseOf_70 : decode cX8_chooseOf 70 = .ok (.iinc 3 1, 3) := by decide +kernel
theorem dX8_chooseOf_73 : decode cX8_chooseOf 73 = .ok (.goto (-42), 3) := by decide +kernel
theorem dX8_chooseOf_76 : decode cX8_chooseOf 76 = .ok (.aload_n 0, 1) := by decide +kernel
theorem dX8_chooseOf_77 : decode cX8_chooseOf 77 = .ok (.getfield 68, 3) := by decide +kernel
theorem dX8_chooseOf_80 : decode cX8_chooseOf 80 = .ok (.iload_n 2, 1) := by decide +kernel
theorem dX8_chooseOf_81 : decode cX8_chooseOf 81 = .ok (.laload, 1) := by decide +kernel
theorem dX8_chooseOf_82 : decode cX8_chooseOf 82 = .ok (.lreturn, 1) := by decide +kernel
theorem dX8_sample_0 : decode cX8_sample 0 = .ok (.iload_n 1, 1) := by decide +kernel
theorem dX8_sample_1 : decode cX8_sample 1 = .ok (.i2l, 1) := by decide +kernel
theorem dX8_sample_2 : decode cX8_sample 2 = .ok (.lconst 1, 1) := by decide +kernel
theorem dX8_sample_3 : decode cX8_sample 3 = .ok (.ldc2_w 268, 3) := by decide +kernel
theorem dX8_sample_6 : decode cX8_sample 6 = .ok (.invokestatic 80, 3) := by decide +kernel
theorem dX8_sample_9 : decode cX8_sample 9 = .ok (.ifCond .eq 48, 3) := by decide +kernel
theorem dX8_sample_12 : decode cX8_sample 12 = .ok (.iload_n 2, 1) := by decide +kernel
theorem dX8_sample_13 : decode cX8_sample 13 = .ok (.i2l, 1) := by decide +kernel
theorem dX8_sample_14 : decode cX8_sample 14 = .ok (.lconst 0, 1) := by decide +kernel
theorem dX8_sample_15 : decode cX8_sample 15 = .ok (.iload_n 1, 1) := by decide +kernel
theorem dX8_sample_16 : decode cX8_sample 16 = .ok (.i2l, 1) := by decide +kernel
theorem dX8_sample_17 : decode cX8_sample 17 = .ok (.invokestatic 80, 3) := by decide +kernel
theorem dX8_sample_20 : decode cX8_sample 20 = .ok (.ifCond .eq 37, 3) := by decide +kernel
theorem dX8_sample_23 : decode cX8_sample 23 = .ok (.iload_n 3, 1) := by decide +kernel
theorem dX8_sample_24 : decode cX8_sample 24 = .ok (.i2l, 1) := by decide +kernel
theorem dX8_sample_25 : decode cX8_sample 25 = .ok (.lconst 0, 1) := by decide +kernel
theorem dX8_sample_26 : decode cX8_sample 26 = .ok (.iload_n 1, 1) := by decide +kernel
theorem dX8_sample_27 : decode cX8_sample 27 = .ok (.i2l, 1) := by decide +kernel
theorem dX8_sample_28 : decode cX8_sample 28 = .ok (.invokestatic 80, 3) := by decide +kernel
theorem dX8_sample_31 : decode cX8_sample 31 = .ok (.ifCond .eq 26, 3) := by decide +kernel
theorem dX8_sample_34 : decode cX8_sample 34 = .ok (.iload 4, 2) := by decide +kernel
theorem dX8_sample_36 : decode cX8_sample 36 = .ok (.i2l, 1) := by decide +kernel
theorem dX8_sample_37 : decode cX8_sample 37 = .ok (.lconst 0, 1) := by decide +kernel
theorem dX8_sample_38 : decode cX8_sample 38 = .ok (.iload_n 3, 1) := by decide +kernel
theorem dX8_sample_39 : decode cX8_sample 39 = .ok (.i2l, 1) := by decide +kernel
theorem dX8_sample_40 : decode cX8_sample 40 = .ok (.invokestatic 80, 3) := by decide +kernel
theorem dX8_sample_43 : decode cX8_sample 43 = .ok (.ifCond .eq 14, 3) := by decide +kernel
theorem dX8_sample_46 : decode cX8_sample 46 = .ok (.iload 5, 2) := by decide +kernel
theorem dX8_sample_48 : decode cX8_sample 48 = .ok (.i2l, 1) := by decide +kernel
theorem dX8_sample_49 : decode cX8_sample 49 = .ok (.lconst 0, 1) := by decide +kernel
theorem dX8_sample_50 : decode cX8_sample 50 = .ok (.lconst 1, 1) := by decide +kernel
theorem dX8_sample_51 : decode cX8_sample 51 = .ok (.invokestatic 80, 3) := by decide +kernel
theorem dX8_sample_54 : decode cX8_sample 54 = .ok (.ifCond .ne 7, 3) := by decide +kernel
theorem dX8_sample_57 : decode cX8_sample 57 = .ok (.ldc2_w 262, 3) := by decide +kernel
theorem dX8_sample_60 : decode cX8_sample 60 = .ok (.lreturn, 1) := by decide +kernel
theorem dX8_sample_61 : decode cX8_sample 61 = .ok (.aload_n 0, 1) := by decide +kernel
theorem dX8_sample_62 : decode cX8_sample 62 = .ok (.iload_n 2, 1) := by decide +kernel
theorem dX8_sample_63 : decode cX8_sample 63 = .ok (.iload 4, 2) := by decide +kernel
theorem dX8_sample_65 : decode cX8_sample 65 = .ok (.invokevirtual 270, 3) := by decide +kernel
theorem dX8_sample_68 : decode cX8_sample 68 = .ok (.aload_n 0, 1) := by decide +kernel
theorem dX8_sample_69 : decode cX8_sample 69 = .ok (.iload_n 1, 1) := by decide +kernel
theorem dX8_sample_70 : decode cX8_sample 70 = .ok (.iload_n 2, 1) := by decide +kernel
theorem dX8_sample_71 : decode cX8_sample 71 = .ok (.isub, 1) := by decide +kernel
theorem dX8_sample_72 : decode cX8_sample 72 = .ok (.iload_n 3, 1) := by decide +kernel
theorem dX8_sample_73 : decode cX8_sample 73 = .ok (.iload 4, 2) := by decide +kernel
theorem dX8_sample_75 : decode cX8_sample 75 = .ok (.isub, 1) := by decide +kernel
theorem dX8_sample_76 : decode cX8_sample 76 = .ok (.invokevirtual 270, 3) := by decide +kernel
theorem dX8_sample_79 : decode cX8_sample 79 = .ok (.lmul, 1) := by decide +kernel
theorem dX8_sample_80 : decode cX8_sample 80 = .ok (.aload_n 0, 1) := by decide +kernel
theorem dX8_sample_81 : decode cX8_sample 81 = .ok (.iload_n 1, 1) := by decide +kernel
theorem dX8_sample_82 : decode cX8_sample 82 = .ok (.iload_n 3, 1) := by decide +kernel
theorem dX8_sample_83 : decode cX8_sample 83 = .ok (.invokevirtual 270, 3) := by decide +kernel
theorem dX8_sample_86 : decode cX8_sample 86 = .ok (.iload 5, 2) := by decide +kernel
theorem dX8_sample_88 : decode cX8_sample 88 = .ok (.invokestatic 264, 3) := by decide +kernel
theorem dX8_sample_91 : decode cX8_sample 91 = .ok (.lreturn, 1) := by decide +kernel
theorem dX8_seen_0 : decode cX8_seen 0 = .ok (.iload_n 1, 1) := by decide +kernel
theorem dX8_seen_1 : decode cX8_seen 1 = .ok (.i2l, 1) := by decide +kernel
theorem dX8_seen_2 : decode cX8_seen 2 = .ok (.lconst 0, 1) := by decide +kernel
theorem dX8_seen_3 : decode cX8_seen 3 = .ok (.ldc2_w 274, 3) := by decide +kernel
theorem dX8_seen_6 : decode cX8_seen 6 = .ok (.invokestatic 80, 3) := by decide +kernel
theorem dX8_seen_9 : decode cX8_seen 9 = .ok (.ifCond .eq 25, 3) := by decide +kernel
theorem dX8_seen_12 : decode cX8_seen 12 = .ok (.iload_n 2, 1) := by decide +kernel
theorem dX8_seen_13 : decode cX8_seen 13 = .ok (.i2l, 1) := by decide +kernel
theorem dX8_seen_14 : decode cX8_seen 14 = .ok (.lconst 0, 1) := by decide +kernel
theorem dX8_seen_15 : decode cX8_seen 15 = .ok (.ldc2_w 256, 3) := by decide +kernel
theorem dX8_seen_18 : decode cX8_seen 18 = .ok (.invokestatic 80, 3) := by decide +kernel
theorem dX8_seen_21 : decode cX8_seen 21 = .ok (.ifCond .eq 13, 3) := by decide +kernel
theorem dX8_seen_24 : decode cX8_seen 24 = .ok (.iload_n 3, 1) := by decide +kernel
theorem dX8_seen_25 : decode cX8_seen 25 = .ok (.i2l, 1) := by decide +kernel
theorem dX8_seen_26 : decode cX8_seen 26 = .ok (.lconst 0, 1) := by decide +kernel
theorem dX8_seen_27 : decode cX8_seen 27 = .ok (.lconst 1, 1) := by decide +kernel
theorem dX8_seen_28 : decode cX8_seen 28 = .ok (.invokestatic 80, 3) := by decide +kernel
theorem dX8_seen_31 : decode cX8_seen 31 = .ok (.ifCond .ne 6, 3) := by decide +kernel
theorem dX8_seen_34 : decode cX8_seen 34 = .ok (.bipush (-2), 2) := by decide +kernel
theorem dX8_seen_36 : decode cX8_seen 36 = .ok (.ireturn, 1) := by decide +kernel
theorem dX8_seen_37 : decode cX8_seen 37 = .ok (.aload_n 0, 1) := by decide +kernel
theorem dX8_seen_38 : decode cX8_seen 38 = .ok (.getfield 276, 3) := by decide +kernel
theorem dX8_seen_41 : decode cX8_seen 41 = .ok (.bipush 8, 2) := by decide +kernel
theorem dX8_seen_43 : decode cX8_seen 43 = .ok (.if_icmp .ne 6, 3) := by decide +kernel
theorem dX8_seen_46 : decode cX8_seen 46 = .ok (.bipush (-4), 2) := by decide +kernel
theorem dX8_seen_48 : decode cX8_seen 48 = .ok (.ireturn, 1) := by decide +kernel
theorem dX8_seen_49 : decode cX8_seen 49 = .ok (.aload_n 0, 1) := by decide +kernel
theorem dX8_seen_50 : decode cX8_seen 50 = .ok (.getfield 25, 3) := by decide +kernel
theorem dX8_seen_53 : decode cX8_seen 53 = .ok (.aload_n 0, 1) := by decide +kernel
theorem dX8_seen_54 : decode cX8_seen 54 = .ok (.getfield 276, 3) := by decide +kernel
theorem dX8_seen_57 : decode cX8_seen 57 = .ok (.iload_n 1, 1) := by decide +kernel
theorem dX8_seen_58 : decode cX8_seen 58 = .ok (.iastore, 1) := by decide +kernel
theorem dX8_seen_59 : decode cX8_seen 59 = .ok (.aload_n 0, 1) := by decide +kernel
theorem dX8_seen_60 : decode cX8_seen 60 = .ok (.getfield 28, 3) := by decide +kernel
theorem dX8_seen_63 : decode cX8_seen 63 = .ok (.aload_n 0, 1) := by decide +kernel
theorem dX8_seen_64 : decode cX8_seen 64 = .ok (.getfield 276, 3) := by decide +kernel
theorem dX8_seen_67 : decode cX8_seen 67 = .ok (.iload_n 2, 1) := by decide +kernel
theorem dX8_seen_68 : decode cX8_seen 68 = .ok (.iastore, 1) := by decide +kernel
theorem dX8_seen_69 : decode cX8_seen 69 = .ok (.aload_n 0, 1) := by decide +kernel
theorem dX8_seen_70 : decode cX8_seen 70 = .ok (.getfield 31, 3) := by decide +kernel
theorem dX8_seen_73 : decode cX8_seen 73 = .ok (.aload_n 0, 1) := by decide +kernel
theorem dX8_seen_74 : decode cX8_seen 74 = .ok (.getfield 276, 3) := by decide +kernel
theorem dX8_seen_77 : decode cX8_seen 77 = .ok (.iload_n 3, 1) := by decide +kernel
theorem dX8_seen_78 : decode cX8_seen 78 = .ok (.iastore, 1) := by decide +kernel
theorem dX8_seen_79 : decode cX8_seen 79 = .ok (.aload_n 0, 1) := by decide +kernel
theorem dX8_seen_80 : decode cX8_seen 80 = .ok (.dup, 1) := by decide +kernel
theorem dX8_seen_81 : decode cX8_seen 81 = .ok (.getfield 276, 3) := by decide +kernel
theorem dX8_seen_84 : decode cX8_seen 84 = .ok (.iconst 1, 1) := by decide +kernel
theorem dX8_seen_85 : decode cX8_seen 85 = .ok (.iadd, 1) := by decide +kernel
theorem dX8_seen_86 : decode cX8_seen 86 = .ok (.putfield 276, 3) := by decide +kernel
theorem dX8_seen_89 : decode cX8_seen 89 = .ok (.aload_n 0, 1) := by decide +kernel
theorem dX8_seen_90 : decode cX8_seen 90 = .ok (.getfield 276, 3) := by decide +kernel
theorem dX8_seen_93 : decode cX8_seen 93 = .ok (.ireturn, 1) := by decide +kernel
theorem dX8_forget_0 : decode cX8_forget 0 = .ok (.aload_n 0, 1) := by decide +kernel
theorem dX8_forget_1 : decode cX8_forget 1 = .ok (.getfield 276, 3) := by decide +kernel
theorem dX8_forget_4 : decode cX8_forget 4 = .ok (.istore_n 1, 1) := by decide +kernel
theorem dX8_forget_5 : decode cX8_forget 5 = .ok (.aload_n 0, 1) := by decide +kernel
theorem dX8_forget_6 : decode cX8_forget 6 = .ok (.iconst 0, 1) := by decide +kernel
theorem dX8_forget_7 : decode cX8_forget 7 = .ok (.putfield 276, 3) := by decide +kernel
theorem dX8_forget_10 : decode cX8_forget 10 = .ok (.iload_n 1, 1) := by decide +kernel
theorem dX8_forget_11 : decode cX8_forget 11 = .ok (.ireturn, 1) := by decide +kernel
theorem dX8_fits_0 : decode cX8_fits 0 = .ok (.iload_n 2, 1) := by decide +kernel
theorem dX8_fits_1 : decode cX8_fits 1 = .ok (.invokestatic 279, 3) := by decide +kernel
theorem dX8_fits_4 : decode cX8_fits 4 = .ok (.iload_n 1, 1) := by decide +kernel
theorem dX8_fits_5 : decode cX8_fits 5 = .ok (.if_icmp .gt 7, 3) := by decide +kernel
theorem dX8_fits_8 : decode cX8_fits 8 = .ok (.iconst 1, 1) := by decide +kernel
theorem dX8_fits_9 : decode cX8_fits 9 = .ok (.goto 4, 3) := by decide +kernel
theorem dX8_fits_12 : decode cX8_fits 12 = .ok (.iconst 0, 1) := by decide +kernel
theorem dX8_fits_13 : decode cX8_fits 13 = .ok (.istore_n 3, 1) := by decide +kernel
theorem dX8_fits_14 : decode cX8_fits 14 = .ok (.iconst 0, 1) := by decide +kernel
theorem dX8_fits_15 : decode cX8_fits 15 = .ok (.istore 4, 2) := by decide +kernel
theorem dX8_fits_17 : decode cX8_fits 17 = .ok (.iload 4, 2) := by decide +kernel
theorem dX8_fits_19 : decode cX8_fits 19 = .ok (.aload_n 0, 1) := by decide +kernel
theorem dX8_fits_20 : decode cX8_fits 20 = .ok (.getfield 276, 3) := by decide +kernel
theorem dX8_fits_23 : decode cX8_fits 23 = .ok (.if_icmp .ge 72, 3) := by decide +kernel
theorem dX8_fits_26 : decode cX8_fits 26 = .ok (.aload_n 0, 1) := by decide +kernel
theorem dX8_fits_27 : decode cX8_fits 27 = .ok (.getfield 25, 3) := by decide +kernel
theorem dX8_fits_30 : decode cX8_fits 30 = .ok (.iload 4, 2) := by decide +kernel
theorem dX8_fits_32 : decode cX8_fits 32 = .ok (.iaload, 1) := by decide +kernel
theorem dX8_fits_33 : decode cX8_fits 33 = .ok (.iload_n 2, 1) := by decide +kernel
theorem dX8_fits_34 : decode cX8_fits 34 = .ok (.iconst (-1), 1) := by decide +kernel
theorem dX8_fits_35 : decode cX8_fits 35 = .ok (.ixor, 1) := by decide +kernel
theorem dX8_fits_36 : decode cX8_fits 36 = .ok (.iand, 1) := by decide +kernel
theorem dX8_fits_37 : decode cX8_fits 37 = .ok (.invokestatic 279, 3) := by decide +kernel
theorem dX8_fits_40 : decode cX8_fits 40 = .ok (.istore 5, 2) := by decide +kernel
theorem dX8_fits_42 : decode cX8_fits 42 = .ok (.iload_n 3, 1) := by decide +kernel
theorem dX8_fits_43 : decode cX8_fits 43 = .ok (.ifCond .eq 44, 3) := by decide +kernel
theorem dX8_fits_46 : decode cX8_fits 46 = .ok (.aload_n 0, 1) := by decide +kernel
theorem dX8_fits_47 : decode cX8_fits 47 = .ok (.getfield 31, 3) := by decide +kernel
theorem dX8_fits_50 : decode cX8_fits 50 = .ok (.iload 4, 2) := by decide +kernel
theorem dX8_fits_52 : decode cX8_fits 52 = .ok (.iaload, 1) := by decide +kernel
theorem dX8_fits_53 : decode cX8_fits 53 = .ok (.ifCond .ne 18, 3) := by decide +kernel
theorem dX8_fits_56 : decode cX8_fits 56 = .ok (.iload 5, 2) := by decide +kernel
theorem dX8_fits_58 : decode cX8_fits 58 = .ok (.aload_n 0, 1) := by decide +kernel
theorem dX8_fits_59 : decode cX8_fits 59 = .ok (.getfield 28, 3) := by decide +kernel
theorem dX8_fits_62 : decode cX8_fits 62 = .ok (.iload 4, 2) := by decide +kernel
theorem dX8_fits_64 : decode cX8_fits 64 = .ok (.iaload, 1) := by decide +kernel
theorem dX8_fits_65 : decode cX8_fits 65 = .ok (.if_icmp .ne 22, 3) := by decide +kernel
theorem dX8_fits_68 : decode cX8_fits 68 = .ok (.goto 15, 3) := by decide +kernel
theorem dX8_fits_71 : decode cX8_fits 71 = .ok (.iload 5, 2) := by decide +kernel
theorem dX8_fits_73 : decode cX8_fits 73 = .ok (.aload_n 0, 1) := by decide +kernel
theorem dX8_fits_74 : decode cX8_fits 74 = .ok (.getfield 28, 3) := by decide +kernel
theorem dX8_fits_77 : decode cX8_fits 77 = .ok (.iload 4, 2) := by decide +kernel
theorem dX8_fits_79 : decode cX8_fits 79 = .ok (.iaload, 1) := by decide +kernel
theorem dX8_fits_80 : decode cX8_fits 80 = .ok (.if_icmp .lt 7, 3) := by decide +kernel
theorem dX8_fits_83 : decode cX8_fits 83 = .ok (.iconst 1, 1) := by decide +kernel
theorem dX8_fits_84 : decode cX8_fits 84 = .ok (.goto 4, 3) := by decide +kernel
theorem dX8_fits_87 : decode cX8_fits 87 = .ok (.iconst 0, 1) := by decide +kernel
theorem dX8_fits_88 : decode cX8_fits 88 = .ok (.istore_n 3, 1) := by decide +kernel
theorem dX8_fits_89 : decode cX8_fits 89 = .ok (.iinc 4 1, 3) := by decide +kernel
theorem dX8_fits_92 : decode cX8_fits 92 = .ok (.goto (-75), 3) := by decide +kernel
theorem dX8_fits_95 : decode cX8_fits 95 = .ok (.iload_n 3, 1) := by decide +kernel
theorem dX8_fits_96 : decode cX8_fits 96 = .ok (.ireturn, 1) := by decide +kernel
theorem dX8_clerks_0 : decode cX8_clerks 0 = .ok (.iload_n 1, 1) := by decide +kernel
theorem dX8_clerks_1 : decode cX8_clerks 1 = .ok (.i2l, 1) := by decide +kernel
theorem dX8_clerks_2 : decode cX8_clerks 2 = .ok (.lconst 0, 1) := by decide +kernel
theorem dX8_clerks_3 : decode cX8_clerks 3 = .ok (.ldc2_w 235, 3) := by decide +kernel
theorem dX8_clerks_6 : decode cX8_clerks 6 = .ok (.invokestatic 80, 3) := by decide +kernel
theorem dX8_clerks_9 : decode cX8_clerks 9 = .ok (.ifCond .ne 6, 3) := by decide +kernel
theorem dX8_clerks_12 : decode cX8_clerks 12 = .ok (.bipush (-2), 2) := by decide +kernel
theorem dX8_clerks_14 : decode cX8_clerks 14 = .ok (.ireturn, 1) := by decide +kernel
theorem dX8_clerks_15 : decode cX8_clerks 15 = .ok (.iconst 0, 1) := by decide +kernel
theorem dX8_clerks_16 : decode cX8_clerks 16 = .ok (.istore_n 3, 1) := by decide +kernel
theorem dX8_clerks_17 : decode cX8_clerks 17 = .ok (.iconst 0, 1) := by decide +kernel
theorem dX8_clerks_18 : decode cX8_clerks 18 = .ok (.istore 4, 2) := by decide +kernel
theorem dX8_clerks_20 : decode cX8_clerks 20 = .ok (.iload 4, 2) := by decide +kernel
theorem dX8_clerks_22 : decode cX8_clerks 22 = .ok (.sipush 256, 3) := by decide +kernel
theorem dX8_clerks_25 : decode cX8_clerks 25 = .ok (.if_icmp .ge 30, 3) := by decide +kernel
theorem dX8_clerks_28 : decode cX8_clerks 28 = .ok (.aload_n 0, 1) := by decide +kernel
theorem dX8_clerks_29 : decode cX8_clerks 29 = .ok (.iload_n 1, 1) := by decide +kernel
theorem dX8_clerks_30 : decode cX8_clerks 30 = .ok (.iload 4, 2) := by decide +kernel
theorem dX8_clerks_32 : decode cX8_clerks 32 = .ok (.invokevirtual 282, 3) := by decide +kernel
theorem dX8_clerks_35 : decode cX8_clerks 35 = .ok (.ifCond .eq 14, 3) := by decide +kernel
theorem dX8_clerks_38 : decode cX8_clerks 38 = .ok (.iload_n 3, 1) := by decide +kernel
theorem dX8_clerks_39 : decode cX8_clerks 39 = .ok (.iload_n 2, 1) := by decide +kernel
theorem dX8_clerks_40 : decode cX8_clerks 40 = .ok (.if_icmp .ne 6, 3) := by decide +kernel
theorem dX8_clerks_43 : decode cX8_clerks 43 = .ok (.iload 4, 2) := by decide +kernel
theorem dX8_clerks_45 : decode cX8_clerks 45 = .ok (.ireturn, 1) := by decide +kernel
theorem dX8_clerks_46 : decode cX8_clerks 46 = .ok (.iinc 3 1, 3) := by decide +kernel
theorem dX8_clerks_49 : decode cX8_clerks 49 = .ok (.iinc 4 1, 3) := by decide +kernel
theorem dX8_clerks_52 : decode cX8_clerks 52 = .ok (.goto (-32), 3) := by decide +kernel
theorem dX8_clerks_55 : decode cX8_clerks 55 = .ok (.iload_n 2, 1) := by decide +kernel
theorem dX8_clerks_56 : decode cX8_clerks 56 = .ok (.iconst (-1), 1) := by decide +kernel
theorem dX8_clerks_57 : decode cX8_clerks 57 = .ok (.if_icmp .ne 7, 3) := by decide +kernel
theorem dX8_clerks_60 : decode cX8_clerks 60 = .ok (.iload_n 3, 1) := by decide +kernel
theorem dX8_clerks_61 : decode cX8_clerks 61 = .ok (.goto 5, 3) := by decide +kernel
theorem dX8_clerks_64 : decode cX8_clerks 64 = .ok (.bipush (-6), 2) := by decide +kernel
theorem dX8_clerks_66 : decode cX8_clerks 66 = .ok (.ireturn, 1) := by decide +kernel
theorem dX8_mostLeft_0 : decode cX8_mostLeft 0 = .ok (.iconst 0, 1) := by decide +kernel
theorem dX8_mostLeft_1 : decode cX8_mostLeft 1 = .ok (.istore_n 3, 1) := by decide +kernel
theorem dX8_mostLeft_2 : decode cX8_mostLeft 2 = .ok (.iconst 0, 1) := by decide +kernel
theorem dX8_mostLeft_3 : decode cX8_mostLeft 3 = .ok (.istore 4, 2) := by decide +kernel
theorem dX8_mostLeft_5 : decode cX8_mostLeft 5 = .ok (.iconst 0, 1) := by decide +kernel
theorem dX8_mostLeft_6 : decode cX8_mostLeft 6 = .ok (.istore 5, 2) := by decide +kernel
theorem dX8_mostLeft_8 : decode cX8_mostLeft 8 = .ok (.iload 5, 2) := by decide +kernel
theorem dX8_mostLeft_10 : decode cX8_mostLeft 10 = .ok (.sipush 256, 3) := by decide +kernel
theorem dX8_mostLeft_13 : decode cX8_mostLeft 13 = .ok (.if_icmp .ge 56, 3) := by decide +kernel
theorem dX8_mostLeft_16 : decode cX8_mostLeft 16 = .ok (.aload_n 0, 1) := by decide +kernel
theorem dX8_mostLeft_17 : decode cX8_mostLeft 17 = .ok (.iload_n 1, 1) := by decide +kernel
theorem dX8_mostLeft_18 : decode cX8_mostLeft 18 = .ok (.iload 5, 2) := by decide +kernel
theorem dX8_mostLeft_20 : decode cX8_mostLeft 20 = .ok (.invokevirtual 282, 3) := by decide +kernel
theorem dX8_mostLeft_23 : decode cX8_mostLeft 23 = .ok (.istore 6, 2) := by decide +kernel
theorem dX8_mostLeft_25 : decode cX8_mostLeft 25 = .ok (.iload 4, 2) := by decide +kernel
theorem dX8_mostLeft_27 : decode cX8_mostLeft 27 = .ok (.iload 6, 2) := by decide +kernel
theorem dX8_mostLeft_29 : decode cX8_mostLeft 29 = .ok (.ifCond .eq 7, 3) := by decide +kernel
theorem dX8_mostLeft_32 : decode cX8_mostLeft 32 = .ok (.iconst 1, 1) := by decide +kernel
theorem dX8_mostLeft_33 : decode cX8_mostLeft 33 = .ok (.goto 4, 3) := by decide +kernel
theorem dX8_mostLeft_36 : decode cX8_mostLeft 36 = .ok (.iconst 0, 1) := by decide +kernel
theorem dX8_mostLeft_37 : decode cX8_mostLeft 37 = .ok (.iadd, 1) := by decide +kernel
theorem dX8_mostLeft_38 : decode cX8_mostLeft 38 = .ok (.istore 4, 2) := by decide +kernel
theorem dX8_mostLeft_40 : decode cX8_mostLeft 40 = .ok (.iload_n 3, 1) := by decide +kernel
theorem dX8_mostLeft_41 : decode cX8_mostLeft 41 = .ok (.iload 6, 2) := by decide +kernel
theorem dX8_mostLeft_43 : decode cX8_mostLeft 43 = .ok (.ifCond .eq 17, 3) := by decide +kernel
theorem dX8_mostLeft_46 : decode cX8_mostLeft 46 = .ok (.iload 5, 2) := by decide +kernel
theorem dX8_mostLeft_48 : decode cX8_mostLeft 48 = .ok (.iload_n 2, 1) := by decide +kernel
theorem dX8_mostLeft_49 : decode cX8_mostLeft 49 = .ok (.ishr, 1) := by decide +kernel
theorem dX8_mostLeft_50 : decode cX8_mostLeft 50 = .ok (.iconst 1, 1) := by decide +kernel
theorem dX8_mostLeft_51 : decode cX8_mostLeft 51 = .ok (.iand, 1) := by decide +kernel
theorem dX8_mostLeft_52 : decode cX8_mostLeft 52 = .ok (.iconst 1, 1) := by decide +kernel
theorem dX8_mostLeft_53 : decode cX8_mostLeft 53 = .ok (.if_icmp .ne 7, 3) := by decide +kernel
theorem dX8_mostLeft_56 : decode cX8_mostLeft 56 = .ok (.iconst 1, 1) := by decide +kernel
theorem dX8_mostLeft_57 : decode cX8_mostLeft 57 = .ok (.goto 4, 3) := by decide +kernel
theorem dX8_mostLeft_60 : decode cX8_mostLeft 60 = .ok (.iconst 0, 1) := by decide +kernel
theorem dX8_mostLeft_61 : decode cX8_mostLeft 61 = .ok (.iadd, 1) := by decide +kernel
theorem dX8_mostLeft_62 : decode cX8_mostLeft 62 = .ok (.istore_n 3, 1) := by decide +kernel
theorem dX8_mostLeft_63 : decode cX8_mostLeft 63 = .ok (.iinc 5 1, 3) := by decide +kernel
theorem dX8_mostLeft_66 : decode cX8_mostLeft 66 = .ok (.goto (-58), 3) := by decide +kernel
theorem dX8_mostLeft_69 : decode cX8_mostLeft 69 = .ok (.iload_n 3, 1) := by decide +kernel
theorem dX8_mostLeft_70 : decode cX8_mostLeft 70 = .ok (.iload 4, 2) := by decide +kernel
theorem dX8_mostLeft_72 : decode cX8_mostLeft 72 = .ok (.iload_n 3, 1) := by decide +kernel
theorem dX8_mostLeft_73 : decode cX8_mostLeft 73 = .ok (.isub, 1) := by decide +kernel
theorem dX8_mostLeft_74 : decode cX8_mostLeft 74 = .ok (.if_icmp .le 7, 3) := by decide +kernel
theorem dX8_mostLeft_77 : decode cX8_mostLeft 77 = .ok (.iload_n 3, 1) := by decide +kernel
theorem dX8_mostLeft_78 : decode cX8_mostLeft 78 = .ok (.goto 7, 3) := by decide +kernel
theorem dX8_mostLeft_81 : decode cX8_mostLeft 81 = .ok (.iload 4, 2) := by decide +kernel
theorem dX8_mostLeft_83 : decode cX8_mostLeft 83 = .ok (.iload_n 3, 1) := by decide +kernel
theorem dX8_mostLeft_84 : decode cX8_mostLeft 84 = .ok (.isub, 1) := by decide +kernel
theorem dX8_mostLeft_85 : decode cX8_mostLeft 85 = .ok (.ireturn, 1) := by decide +kernel
theorem dX8_count_0 : decode cX8_count 0 = .ok (.iload_n 1, 1) := by decide +kernel
theorem dX8_count_1 : decode cX8_count 1 = .ok (.i2l, 1) := by decide +kernel
theorem dX8_count_2 : decode cX8_count 2 = .ok (.lconst 0, 1) := by decide +kernel
theorem dX8_count_3 : decode cX8_count 3 = .ok (.ldc2_w 235, 3) := by decide +kernel
theorem dX8_count_6 : decode cX8_count 6 = .ok (.invokestatic 80, 3) := by decide +kernel
theorem dX8_count_9 : decode cX8_count 9 = .ok (.ifCond .eq 13, 3) := by decide +kernel
theorem dX8_count_12 : decode cX8_count 12 = .ok (.iload_n 2, 1) := by decide +kernel
theorem dX8_count_13 : decode cX8_count 13 = .ok (.i2l, 1) := by decide +kernel
theorem dX8_count_14 : decode cX8_count 14 = .ok (.lconst 0, 1) := by decide +kernel
theorem dX8_count_15 : decode cX8_count 15 = .ok (.lconst 1, 1) := by decide +kernel
theorem dX8_count_16 : decode cX8_count 16 = .ok (.invokestatic 80, 3) := by decide +kernel
theorem dX8_count_19 : decode cX8_count 19 = .ok (.ifCond .ne 6, 3) := by decide +kernel
theorem dX8_count_22 : decode cX8_count 22 = .ok (.bipush (-2), 2) := by decide +kernel
theorem dX8_count_24 : decode cX8_count 24 = .ok (.ireturn, 1) := by decide +kernel
theorem dX8_count_25 : decode cX8_count 25 = .ok (.iconst 0, 1) := by decide +kernel
theorem dX8_count_26 : decode cX8_count 26 = .ok (.istore_n 3, 1) := by decide +kernel
theorem dX8_count_27 : decode cX8_count 27 = .ok (.aload_n 0, 1) := by decide +kernel
theorem dX8_count_28 : decode cX8_count 28 = .ok (.iload_n 1, 1) := by decide +kernel
theorem dX8_count_29 : decode cX8_count 29 = .ok (.iconst 0, 1) := by decide +kernel
theorem dX8_count_30 : decode cX8_count 30 = .ok (.invokevirtual 286, 3) := by decide +kernel
theorem dX8_count_33 : decode cX8_count 33 = .ok (.istore 4, 2) := by decide +kernel
theorem dX8_count_35 : decode cX8_count 35 = .ok (.iconst 1, 1) := by decide +kernel
theorem dX8_count_36 : decode cX8_count 36 = .ok (.istore 5, 2) := by decide +kernel
theorem dX8_count_38 : decode cX8_count 38 = .ok (.iload 5, 2) := by decide +kernel
theorem dX8_count_40 : decode cX8_count 40 = .ok (.bipush 8, 2) := by decide +kernel
theorem dX8_count_42 : decode cX8_count 42 = .ok (.if_icmp .ge 48, 3) := by decide +kernel
theorem dX8_count_45 : decode cX8_count 45 = .ok (.aload_n 0, 1) := by decide +kernel
theorem dX8_count_46 : decode cX8_count 46 = .ok (.iload_n 1, 1) := by decide +kernel
theorem dX8_count_47 : decode cX8_count 47 = .ok (.iload 5, 2) := by decide +kernel
theorem dX8_count_49 : decode cX8_count 49 = .ok (.invokevirtual 286, 3) := by decide +kernel
theorem dX8_count_52 : decode cX8_count 52 = .ok (.istore 6, 2) := by decide +kernel
theorem dX8_count_54 : decode cX8_count 54 = .ok (.iload 6, 2) := by decide +kernel
theorem dX8_count_56 : decode cX8_count 56 = .ok (.iload 4, 2) := by decide +kernel
theorem dX8_count_58 : decode cX8_count 58 = .ok (.if_icmp .ge 8, 3) := by decide +kernel
theorem dX8_count_61 : decode cX8_count 61 = .ok (.iload 5, 2) := by decide +kernel
theorem dX8_count_63 : decode cX8_count 63 = .ok (.goto 4, 3) := by decide +kernel
theorem dX8_count_66 : decode cX8_count 66 = .ok (.iload_n 3, 1) := by decide +kernel
theorem dX8_count_67 : decode cX8_count 67 = .ok (.istore_n 3, 1) := by decide +kernel
theorem dX8_count_68 : decode cX8_count 68 = .ok (.iload 6, 2) := by decide +kernel
theorem dX8_count_70 : decode cX8_count 70 = .ok (.iload 4, 2) := by decide +kernel
theorem dX8_count_72 : decode cX8_count 72 = .ok (.if_icmp .ge 8, 3) := by decide +kernel
theorem dX8_count_75 : decode cX8_count 75 = .ok (.iload 6, 2) := by decide +kernel
theorem dX8_count_77 : decode cX8_count 77 = .ok (.goto 5, 3) := by decide +kernel
theorem dX8_count_80 : decode cX8_count 80 = .ok (.iload 4, 2) := by decide +kernel
theorem dX8_count_82 : decode cX8_count 82 = .ok (.istore 4, 2) := by decide +kernel
theorem dX8_count_84 : decode cX8_count 84 = .ok (.iinc 5 1, 3) := by decide +kernel
theorem dX8_count_87 : decode cX8_count 87 = .ok (.goto (-49), 3) := by decide +kernel
theorem dX8_count_90 : decode cX8_count 90 = .ok (.iload 4, 2) := by decide +kernel
theorem dX8_count_92 : decode cX8_count 92 = .ok (.ifCond .ne 8, 3) := by decide +kernel
theorem dX8_count_95 : decode cX8_count 95 = .ok (.bipush (-6), 2) := by decide +kernel
theorem dX8_count_97 : decode cX8_count 97 = .ok (.goto 13, 3) := by decide +kernel
theorem dX8_count_100 : decode cX8_count 100 = .ok (.iload_n 2, 1) := by decide +kernel
theorem dX8_count_101 : decode cX8_count 101 = .ok (.ifCond .ne 7, 3) := by decide +kernel
theorem dX8_count_104 : decode cX8_count 104 = .ok (.iload_n 3, 1) := by decide +kernel
theorem dX8_count_105 : decode cX8_count 105 = .ok (.goto 5, 3) := by decide +kernel
theorem dX8_count_108 : decode cX8_count 108 = .ok (.iload 4, 2) := by decide +kernel
theorem dX8_count_110 : decode cX8_count 110 = .ok (.ireturn, 1) := by decide +kernel
theorem dX8_actBy_0 : decode cX8_actBy 0 = .ok (.iload_n 0, 1) := by decide +kernel
theorem dX8_actBy_1 : decode cX8_actBy 1 = .ok (.tableswitch 55 0 6 #[43, 45, 47, 47, 49, 51, 53], 43) := by decide +kernel
theorem dX8_actBy_44 : decode cX8_actBy 44 = .ok (.iconst 0, 1) := by decide +kernel
theorem dX8_actBy_45 : decode cX8_actBy 45 = .ok (.ireturn, 1) := by decide +kernel
theorem dX8_actBy_46 : decode cX8_actBy 46 = .ok (.iconst 5, 1) := by decide +kernel
theorem dX8_actBy_47 : decode cX8_actBy 47 = .ok (.ireturn, 1) := by decide +kernel
theorem dX8_actBy_48 : decode cX8_actBy 48 = .ok (.iconst 2, 1) := by decide +kernel
theorem dX8_actBy_49 : decode cX8_actBy 49 = .ok (.ireturn, 1) := by decide +kernel
theorem dX8_actBy_50 : decode cX8_actBy 50 = .ok (.iconst 3, 1) := by decide +kernel
theorem dX8_actBy_51 : decode cX8_actBy 51 = .ok (.ireturn, 1) := by decide +kernel
theorem dX8_actBy_52 : decode cX8_actBy 52 = .ok (.iconst 4, 1) := by decide +kernel
theorem dX8_actBy_53 : decode cX8_actBy 53 = .ok (.ireturn, 1) := by decide +kernel
theorem dX8_actBy_54 : decode cX8_actBy 54 = .ok (.iconst 1, 1) := by decide +kernel
theorem dX8_actBy_55 : decode cX8_actBy 55 = .ok (.ireturn, 1) := by decide +kernel
theorem dX8_actBy_56 : decode cX8_actBy 56 = .ok (.bipush 6, 2) := by decide +kernel
theorem dX8_actBy_58 : decode cX8_actBy 58 = .ok (.ireturn, 1) := by decide +kernel
theorem dX8_muchBy_0 : decode cX8_muchBy 0 = .ok (.iload_n 0, 1) := by decide +kernel
theorem dX8_muchBy_1 : decode cX8_muchBy 1 = .ok (.tableswitch 47 2 4 #[27, 37, 32], 27) := by decide +kernel
theorem dX8_muchBy_28 : decode cX8_muchBy 28 = .ok (.iload_n 1, 1) := by decide +kernel
theorem dX8_muchBy_29 : decode cX8_muchBy 29 = .ok (.bipush 8, 2) := by decide +kernel
theorem dX8_muchBy_31 : decode cX8_muchBy 31 = .ok (.irem, 1) := by decide +kernel
theorem dX8_muchBy_32 : decode cX8_muchBy 32 = .ok (.ireturn, 1) := by decide +kernel
theorem dX8_muchBy_33 : decode cX8_muchBy 33 = .ok (.iload_n 1, 1) := by decide +kernel
theorem dX8_muchBy_34 : decode cX8_muchBy 34 = .ok (.bipush 6, 2) := by decide +kernel
theorem dX8_muchBy_36 : decode cX8_muchBy 36 = .ok (.irem, 1) := by decide +kernel
theorem dX8_muchBy_37 : decode cX8_muchBy 37 = .ok (.ireturn, 1) := by decide +kernel
theorem dX8_muchBy_38 : decode cX8_muchBy 38 = .ok (.bipush 10, 2) := by decide +kernel
theorem dX8_muchBy_40 : decode cX8_muchBy 40 = .ok (.iconst 1, 1) := by decide +kernel
theorem dX8_muchBy_41 : decode cX8_muchBy 41 = .ok (.iload_n 1, 1) := by decide +kernel
theorem dX8_muchBy_42 : decode cX8_muchBy 42 = .ok (.bipush 9, 2) := by decide +kernel
theorem dX8_muchBy_44 : decode cX8_muchBy 44 = .ok (.irem, 1) := by decide +kernel
theorem dX8_muchBy_45 : decode cX8_muchBy 45 = .ok (.iadd, 1) := by decide +kernel
theorem dX8_muchBy_46 : decode cX8_muchBy 46 = .ok (.imul, 1) := by decide +kernel
theorem dX8_muchBy_47 : decode cX8_muchBy 47 = .ok (.ireturn, 1) := by decide +kernel
theorem dX8_muchBy_48 : decode cX8_muchBy 48 = .ok (.bipush 100, 2) := by decide +kernel
theorem dX8_muchBy_50 : decode cX8_muchBy 50 = .ok (.iconst 1, 1) := by decide +kernel
theorem dX8_muchBy_51 : decode cX8_muchBy 51 = .ok (.iload_n 1, 1) := by decide +kernel
theorem dX8_muchBy_52 : decode cX8_muchBy 52 = .ok (.bipush 9, 2) := by decide +kernel
theorem dX8_muchBy_54 : decode cX8_muchBy 54 = .ok (.irem, 1) := by decide +kernel
theorem dX8_muchBy_55 : decode cX8_muchBy 55 = .ok (.iadd, 1) := by decide +kernel
theorem dX8_muchBy_56 : decode cX8_muchBy 56 = .ok (.imul, 1) := by decide +kernel
theorem dX8_muchBy_57 : decode cX8_muchBy 57 = .ok (.ireturn, 1) := by decide +kernel
theorem dX8_year_0 : decode cX8_year 0 = .ok (.iload_n 1, 1) := by decide +kernel
theorem dX8_year_1 : decode cX8_year 1 = .ok (.i2l, 1) := by decide +kernel
theorem dX8_year_2 : decode cX8_year 2 = .ok (.lconst 0, 1) := by decide +kernel
theorem dX8_year_3 : decode cX8_year 3 = .ok (.ldc2_w 88, 3) := by decide +kernel
theorem dX8_year_6 : decode cX8_year 6 = .ok (.invokestatic 80, 3) := by decide +kernel
theorem dX8_year_9 : decode cX8_year 9 = .ok (.ifCond .eq 27, 3) := by decide +kernel
theorem dX8_year_12 : decode cX8_year 12 = .ok (.iload_n 2, 1) := by decide +kernel
theorem dX8_year_13 : decode cX8_year 13 = .ok (.i2l, 1) := by decide +kernel
theorem dX8_year_14 : decode cX8_year 14 = .ok (.lconst 1, 1) := by decide +kernel
theorem dX8_year_15 : decode cX8_year 15 = .ok (.ldc2_w 252, 3) := by decide +kernel
theorem dX8_year_18 : decode cX8_year 18 = .ok (.invokestatic 80, 3) := by decide +kernel
theorem dX8_year_21 : decode cX8_year 21 = .ok (.ifCond .eq 15, 3) := by decide +kernel
theorem dX8_year_24 : decode cX8_year 24 = .ok (.iload_n 3, 1) := by decide +kernel
theorem dX8_year_25 : decode cX8_year 25 = .ok (.i2l, 1) := by decide +kernel
theorem dX8_year_26 : decode cX8_year 26 = .ok (.lconst 0, 1) := by decide +kernel
theorem dX8_year_27 : decode cX8_year 27 = .ok (.ldc2_w 221, 3) := by decide +kernel
theorem dX8_year_30 : decode cX8_year 30 = .ok (.invokestatic 80, 3) := by decide +kernel
theorem dX8_year_33 : decode cX8_year 33 = .ok (.ifCond .ne 6, 3) := by decide +kernel
theorem dX8_year_36 : decode cX8_year 36 = .ok (.bipush (-2), 2) := by decide +kernel
theorem dX8_year_38 : decode cX8_year 38 = .ok (.ireturn, 1) := by decide +kernel
theorem dX8_year_39 : decode cX8_year 39 = .ok (.aload_n 0, 1) := by decide +kernel
theorem dX8_year_40 : decode cX8_year 40 = .ok (.invokevirtual 212, 3) := by decide +kernel
theorem dX8_year_43 : decode cX8_year 43 = .ok (.iload_n 1, 1) := by decide +kernel
theorem dX8_year_44 : decode cX8_year 44 = .ok (.istore 4, 2) := by decide +kernel
theorem dX8_year_46 : decode cX8_year 46 = .ok (.iconst 0, 1) := by decide +kernel
theorem dX8_year_47 : decode cX8_year 47 = .ok (.istore 5, 2) := by decide +kernel
theorem dX8_year_49 : decode cX8_year 49 = .ok (.iload 5, 2) := by decide +kernel
theorem dX8_year_51 : decode cX8_year 51 = .ok (.iload_n 2, 1) := by decide +kernel
theorem dX8_year_52 : decode cX8_year 52 = .ok (.if_icmp .ge 82, 3) := by decide +kernel
theorem dX8_year_55 : decode cX8_year 55 = .ok (.ldc2_w 289, 3) := by decide +kernel
theorem dX8_year_58 : decode cX8_year 58 = .ok (.iload 4, 2) := by decide +kernel
theorem dX8_year_60 : decode cX8_year 60 = .ok (.i2l, 1) := by decide +kernel
theorem dX8_year_61 : decode cX8_year 61 = .ok (.lmul, 1) := by decide +kernel
theorem dX8_year_62 : decode cX8_year 62 = .ok (.ldc2_w 291, 3) := by decide +kernel
theorem dX8_year_65 : decode cX8_year 65 = .ok (.ladd, 1) := by decide +kernel
theorem dX8_year_66 : decode cX8_year 66 = .ok (.ldc2_w 293, 3) := by decide +kernel
theorem dX8_year_69 : decode cX8_year 69 = .ok (.lrem, 1) := by decide +kernel
theorem dX8_year_70 : decode cX8_year 70 = .ok (.l2i, 1) := by decide +kernel
theorem dX8_year_71 : decode cX8_year 71 = .ok (.istore 4, 2) := by decide +kernel
theorem dX8_year_73 : decode cX8_year 73 = .ok (.iload 4, 2) := by decide +kernel
theorem dX8_year_75 : decode cX8_year 75 = .ok (.bipush 6, 2) := by decide +kernel
theorem dX8_year_77 : decode cX8_year 77 = .ok (.idiv, 1) := by decide +kernel
theorem dX8_year_78 : decode cX8_year 78 = .ok (.bipush 8, 2) := by decide +kernel
theorem dX8_year_80 : decode cX8_year 80 = .ok (.irem, 1) := by decide +kernel
theorem dX8_year_81 : decode cX8_year 81 = .ok (.invokestatic 295, 3) := by decide +kernel
theorem dX8_year_84 : decode cX8_year 84 = .ok (.istore 6, 2) := by decide +kernel
theorem dX8_year_86 : decode cX8_year 86 = .ok (.iload 4, 2) := by decide +kernel
theorem dX8_year_88 : decode cX8_year 88 = .ok (.bipush 6, 2) := by decide +kernel
theorem dX8_year_90 : decode cX8_year 90 = .ok (.irem, 1) := by decide +kernel
theorem dX8_year_91 : decode cX8_year 91 = .ok (.istore 7, 2) := by decide +kernel
theorem dX8_year_93 : decode cX8_year 93 = .ok (.iload 6, 2) := by decide +kernel
theorem dX8_year_95 : decode cX8_year 95 = .ok (.iload 4, 2) := by decide +kernel
theorem dX8_year_97 : decode cX8_year 97 = .ok (.bipush 48, 2) := by decide +kernel
theorem dX8_year_99 : decode cX8_year 99 = .ok (.idiv, 1) := by decide +kernel
theorem dX8_year_100 : decode cX8_year 100 = .ok (.invokestatic 298, 3) := by decide +kernel
theorem dX8_year_103 : decode cX8_year 103 = .ok (.istore 8, 2) := by decide +kernel
theorem dX8_year_105 : decode cX8_year 105 = .ok (.aload_n 0, 1) := by decide +kernel
theorem dX8_year_106 : decode cX8_year 106 = .ok (.iload 6, 2) := by decide +kernel
theorem dX8_year_108 : decode cX8_year 108 = .ok (.iload 7, 2) := by decide +kernel
theorem dX8_year_110 : decode cX8_year 110 = .ok (.iload 8, 2) := by decide +kernel
theorem dX8_year_112 : decode cX8_year 112 = .ok (.invokevirtual 205, 3) := by decide +kernel
theorem dX8_year_115 : decode cX8_year 115 = .ok (.ifCond .ne 13, 3) := by decide +kernel
theorem dX8_year_118 : decode cX8_year 118 = .ok (.aload_n 0, 1) := by decide +kernel
theorem dX8_year_119 : decode cX8_year 119 = .ok (.iload 6, 2) := by decide +kernel
theorem dX8_year_121 : decode cX8_year 121 = .ok (.iload 7, 2) := by decide +kernel
theorem dX8_year_123 : decode cX8_year 123 = .ok (.iload 8, 2) := by decide +kernel
theorem dX8_year_125 : decode cX8_year 125 = .ok (.invokevirtual 208, 3) := by decide +kernel
theorem dX8_year_128 : decode cX8_year 128 = .ok (.iinc 5 1, 3) := by decide +kernel
theorem dX8_year_131 : decode cX8_year 131 = .ok (.goto (-82), 3) := by decide +kernel
theorem dX8_year_134 : decode cX8_year 134 = .ok (.iload_n 3, 1) := by decide +kernel
theorem dX8_year_135 : decode cX8_year 135 = .ok (.ifCond .ne 10, 3) := by decide +kernel
theorem dX8_year_138 : decode cX8_year 138 = .ok (.aload_n 0, 1) := by decide +kernel
theorem dX8_year_139 : decode cX8_year 139 = .ok (.invokevirtual 157, 3) := by decide +kernel
theorem dX8_year_142 : decode cX8_year 142 = .ok (.goto 24, 3) := by decide +kernel
theorem dX8_year_145 : decode cX8_year 145 = .ok (.iload_n 3, 1) := by decide +kernel
theorem dX8_year_146 : decode cX8_year 146 = .ok (.iconst 1, 1) := by decide +kernel
theorem dX8_year_147 : decode cX8_year 147 = .ok (.if_icmp .ne 10, 3) := by decide +kernel
theorem dX8_year_150 : decode cX8_year 150 = .ok (.aload_n 0, 1) := by decide +kernel
theorem dX8_year_151 : decode cX8_year 151 = .ok (.invokevirtual 164, 3) := by decide +kernel
theorem dX8_year_154 : decode cX8_year 154 = .ok (.goto 12, 3) := by decide +kernel
theorem dX8_year_157 : decode cX8_year 157 = .ok (.aload_n 0, 1) := by decide +kernel
theorem dX8_year_158 : decode cX8_year 158 = .ok (.bipush (-6), 2) := by decide +kernel
theorem dX8_year_160 : decode cX8_year 160 = .ok (.invokevirtual 229, 3) := by decide +kernel
theorem dX8_year_163 : decode cX8_year 163 = .ok (.invokestatic 279, 3) := by decide +kernel
theorem dX8_year_166 : decode cX8_year 166 = .ok (.istore 5, 2) := by decide +kernel
theorem dX8_year_168 : decode cX8_year 168 = .ok (.aload_n 0, 1) := by decide +kernel
theorem dX8_year_169 : decode cX8_year 169 = .ok (.iload 5, 2) := by decide +kernel
theorem dX8_year_171 : decode cX8_year 171 = .ok (.invokevirtual 226, 3) := by decide +kernel
theorem dX8_year_174 : decode cX8_year 174 = .ok (.ireturn, 1) := by decide +kernel
theorem dX8_pass_0 : decode cX8_pass 0 = .ok (.aload_n 0, 1) := by decide +kernel
theorem dX8_pass_1 : decode cX8_pass 1 = .ok (.getfield 301, 3) := by decide +kernel
theorem dX8_pass_4 : decode cX8_pass 4 = .ok (.ifCond .eq 7, 3) := by decide +kernel
theorem dX8_pass_7 : decode cX8_pass 7 = .ok (.iload_n 1, 1) := by decide +kernel
theorem dX8_pass_8 : decode cX8_pass 8 = .ok (.goto 12, 3) := by decide +kernel
theorem dX8_pass_11 : decode cX8_pass 11 = .ok (.aload_n 0, 1) := by decide +kernel
theorem dX8_pass_12 : decode cX8_pass 12 = .ok (.getfield 71, 3) := by decide +kernel
theorem dX8_pass_15 : decode cX8_pass 15 = .ok (.aload_n 0, 1) := by decide +kernel
theorem dX8_pass_16 : decode cX8_pass 16 = .ok (.getfield 305, 3) := by decide +kernel
theorem dX8_pass_19 : decode cX8_pass 19 = .ok (.iaload, 1) := by decide +kernel
theorem dX8_pass_20 : decode cX8_pass 20 = .ok (.istore_n 2, 1) := by decide +kernel
theorem dX8_pass_21 : decode cX8_pass 21 = .ok (.aload_n 0, 1) := by decide +kernel
theorem dX8_pass_22 : decode cX8_pass 22 = .ok (.getfield 71, 3) := by decide +kernel
theorem dX8_pass_25 : decode cX8_pass 25 = .ok (.aload_n 0, 1) := by decide +kernel
theorem dX8_pass_26 : decode cX8_pass 26 = .ok (.getfield 305, 3) := by decide +kernel
theorem dX8_pass_29 : decode cX8_pass 29 = .ok (.iload_n 2, 1) := by decide +kernel
theorem dX8_pass_30 : decode cX8_pass 30 = .ok (.iastore, 1) := by decide +kernel
theorem dX8_pass_31 : decode cX8_pass 31 = .ok (.aload_n 0, 1) := by decide +kernel
theorem dX8_pass_32 : decode cX8_pass 32 = .ok (.dup, 1) := by decide +kernel
theorem dX8_pass_33 : decode cX8_pass 33 = .ok (.getfield 305, 3) := by decide +kernel
theorem dX8_pass_36 : decode cX8_pass 36 = .ok (.iconst 1, 1) := by decide +kernel
theorem dX8_pass_37 : decode cX8_pass 37 = .ok (.iadd, 1) := by decide +kernel
theorem dX8_pass_38 : decode cX8_pass 38 = .ok (.putfield 305, 3) := by decide +kernel
theorem dX8_pass_41 : decode cX8_pass 41 = .ok (.iload_n 2, 1) := by decide +kernel
theorem dX8_pass_42 : decode cX8_pass 42 = .ok (.ireturn, 1) := by decide +kernel
theorem dX8_passRow_0 : decode cX8_passRow 0 = .ok (.iconst 0, 1) := by decide +kernel
theorem dX8_passRow_1 : decode cX8_passRow 1 = .ok (.istore_n 3, 1) := by decide +kernel
theorem dX8_passRow_2 : decode cX8_passRow 2 = .ok (.iload_n 3, 1) := by decide +kernel
theorem dX8_passRow_3 : decode cX8_passRow 3 = .ok (.iload_n 2, 1) := by decide +kernel
theorem dX8_passRow_4 : decode cX8_passRow 4 = .ok (.if_icmp .ge 19, 3) := by decide +kernel
theorem dX8_passRow_7 : decode cX8_passRow 7 = .ok (.aload_n 1, 1) := by decide +kernel
theorem dX8_passRow_8 : decode cX8_passRow 8 = .ok (.iload_n 3, 1) := by decide +kernel
theorem dX8_passRow_9 : decode cX8_passRow 9 = .ok (.aload_n 0, 1) := by decide +kernel
theorem dX8_passRow_10 : decode cX8_passRow 10 = .ok (.aload_n 1, 1) := by decide +kernel
theorem dX8_passRow_11 : decode cX8_passRow 11 = .ok (.iload_n 3, 1) := by decide +kernel
theorem dX8_passRow_12 : decode cX8_passRow 12 = .ok (.iaload, 1) := by decide +kernel
theorem dX8_passRow_13 : decode cX8_passRow 13 = .ok (.invokevirtual 308, 3) := by decide +kernel
theorem dX8_passRow_16 : decode cX8_passRow 16 = .ok (.iastore, 1) := by decide +kernel
theorem dX8_passRow_17 : decode cX8_passRow 17 = .ok (.iinc 3 1, 3) := by decide +kernel
theorem dX8_passRow_20 : decode cX8_passRow 20 = .ok (.goto (-18), 3) := by decide +kernel
theorem dX8_passRow_23 : decode cX8_passRow 23 = .ok (.return_, 1) := by decide +kernel
theorem dX8_passAll_0 : decode cX8_passAll 0 = .ok (.aload_n 0, 1) := by decide +kernel
theorem dX8_passAll_1 : decode cX8_passAll 1 = .ok (.aload_n 0, 1) := by decide +kernel
theorem dX8_passAll_2 : decode cX8_passAll 2 = .ok (.aload_n 0, 1) := by decide +kernel
theorem dX8_passAll_3 : decode cX8_passAll 3 = .ok (.getfield 98, 3) := by decide +kernel
theorem dX8_passAll_6 : decode cX8_passAll 6 = .ok (.invokevirtual 308, 3) := by decide +kernel
theorem dX8_passAll_9 : decode cX8_passAll 9 = .ok (.putfield 98, 3) := by decide +kernel
theorem dX8_passAll_12 : decode cX8_passAll 12 = .ok (.aload_n 0, 1) := by decide +kernel
theorem dX8_passAll_13 : decode cX8_passAll 13 = .ok (.aload_n 0, 1) := by decide +kernel
theorem dX8_passAll_14 : decode cX8_passAll 14 = .ok (.aload_n 0, 1) := by decide +kernel
theorem dX8_passAll_15 : decode cX8_passAll 15 = .ok (.getfield 102, 3) := by decide +kernel
theorem dX8_passAll_18 : decode cX8_passAll 18 = .ok (.invokevirtual 308, 3) := by decide +kernel
theorem dX8_passAll_21 : decode cX8_passAll 21 = .ok (.putfield 102, 3) := by decide +kernel
theorem dX8_passAll_24 : decode cX8_passAll 24 = .ok (.aload_n 0, 1) := by decide +kernel
theorem dX8_passAll_25 : decode cX8_passAll 25 = .ok (.aload_n 0, 1) := by decide +kernel
theorem dX8_passAll_26 : decode cX8_passAll 26 = .ok (.aload_n 0, 1) := by decide +kernel
theorem dX8_passAll_27 : decode cX8_passAll 27 = .ok (.getfield 183, 3) := by decide +kernel
theorem dX8_passAll_30 : decode cX8_passAll 30 = .ok (.invokevirtual 308, 3) := by decide +kernel
theorem dX8_passAll_33 : decode cX8_passAll 33 = .ok (.putfield 183, 3) := by decide +kernel
theorem dX8_passAll_36 : decode cX8_passAll 36 = .ok (.aload_n 0, 1) := by decide +kernel
theorem dX8_passAll_37 : decode cX8_passAll 37 = .ok (.aload_n 0, 1) := by decide +kernel
theorem dX8_passAll_38 : decode cX8_passAll 38 = .ok (.aload_n 0, 1) := by decide +kernel
theorem dX8_passAll_39 : decode cX8_passAll 39 = .ok (.getfield 180, 3) := by decide +kernel
theorem dX8_passAll_42 : decode cX8_passAll 42 = .ok (.invokevirtual 308, 3) := by decide +kernel
theorem dX8_passAll_45 : decode cX8_passAll 45 = .ok (.putfield 180, 3) := by decide +kernel
theorem dX8_passAll_48 : decode cX8_passAll 48 = .ok (.aload_n 0, 1) := by decide +kernel
theorem dX8_passAll_49 : decode cX8_passAll 49 = .ok (.aload_n 0, 1) := by decide +kernel
theorem dX8_passAll_50 : decode cX8_passAll 50 = .ok (.aload_n 0, 1) := by decide +kernel
theorem dX8_passAll_51 : decode cX8_passAll 51 = .ok (.getfield 276, 3) := by decide +kernel
theorem dX8_passAll_54 : decode cX8_passAll 54 = .ok (.invokevirtual 308, 3) := by decide +kernel
theorem dX8_passAll_57 : decode cX8_passAll 57 = .ok (.putfield 276, 3) := by decide +kernel
theorem dX8_passAll_60 : decode cX8_passAll 60 = .ok (.aload_n 0, 1) := by decide +kernel
theorem dX8_passAll_61 : decode cX8_passAll 61 = .ok (.aload_n 0, 1) := by decide +kernel
theorem dX8_passAll_62 : decode cX8_passAll 62 = .ok (.getfield 7, 3) := by decide +kernel
theorem dX8_passAll_65 : decode cX8_passAll 65 = .ok (.bipush 6, 2) := by decide +kernel
theorem dX8_passAll_67 : decode cX8_passAll 67 = .ok (.invokevirtual 311, 3) := by decide +kernel
theorem dX8_passAll_70 : decode cX8_passAll 70 = .ok (.aload_n 0, 1) := by decide +kernel
theorem dX8_passAll_71 : decode cX8_passAll 71 = .ok (.aload_n 0, 1) := by decide +kernel
theorem dX8_passAll_72 : decode cX8_passAll 72 = .ok (.getfield 13, 3) := by decide +kernel
theorem dX8_passAll_75 : decode cX8_passAll 75 = .ok (.bipush 6, 2) := by decide +kernel
theorem dX8_passAll_77 : decode cX8_passAll 77 = .ok (.invokevirtual 311, 3) := by decide +kernel
theorem dX8_passAll_80 : decode cX8_passAll 80 = .ok (.aload_n 0, 1) := by decide +kernel
theorem dX8_passAll_81 : decode cX8_passAll 81 = .ok (.aload_n 0, 1) := by decide +kernel
theorem dX8_passAll_82 : decode cX8_passAll 82 = .ok (.getfield 16, 3) := by decide +kernel
theorem dX8_passAll_85 : decode cX8_passAll 85 = .ok (.bipush 36, 2) := by decide +kernel
theorem dX8_passAll_87 : decode cX8_passAll 87 = .ok (.invokevirtual 311, 3) := by decide +kernel
theorem dX8_passAll_90 : decode cX8_passAll 90 = .ok (.aload_n 0, 1) := by decide +kernel
theorem dX8_passAll_91 : decode cX8_passAll 91 = .ok (.aload_n 0, 1) := by decide +kernel
theorem dX8_passAll_92 : decode cX8_passAll 92 = .ok (.getfield 19, 3) := by decide +kernel
theorem dX8_passAll_95 : decode cX8_passAll 95 = .ok (.bipush 8, 2) := by decide +kernel
theorem dX8_passAll_97 : decode cX8_passAll 97 = .ok (.invokevirtual 311, 3) := by decide +kernel
theorem dX8_passAll_100 : decode cX8_passAll 100 = .ok (.aload_n 0, 1) := by decide +kernel
theorem dX8_passAll_101 : decode cX8_passAll 101 = .ok (.aload_n 0, 1) := by decide +kernel
theorem dX8_passAll_102 : decode cX8_passAll 102 = .ok (.getfield 22, 3) := by decide +kernel
theorem dX8_passAll_105 : decode cX8_passAll 105 = .ok (.bipush 8, 2) := by decide +kernel
theorem dX8_passAll_107 : decode cX8_passAll 107 = .ok (.invokevirtual 311, 3) := by decide +kernel
theorem dX8_passAll_110 : decode cX8_passAll 110 = .ok (.aload_n 0, 1) := by decide +kernel
theorem dX8_passAll_111 : decode cX8_passAll 111 = .ok (.aload_n 0, 1) := by decide +kernel
theorem dX8_passAll_112 : decode cX8_passAll 112 = .ok (.getfield 25, 3) := by decide +kernel
theorem dX8_passAll_115 : decode cX8_passAll 115 = .ok (.bipush 8, 2) := by decide +kernel
theorem dX8_passAll_117 : decode cX8_passAll 117 = .ok (.invokevirtual 311, 3) := by decide +kernel
theorem dX8_passAll_120 : decode cX8_passAll 120 = .ok (.aload_n 0, 1) := by decide +kernel
theorem dX8_passAll_121 : decode cX8_passAll 121 = .ok (.aload_n 0, 1) := by decide +kernel
theorem dX8_passAll_122 : decode cX8_passAll 122 = .ok (.getfield 28, 3) := by decide +kernel
theorem dX8_passAll_125 : decode cX8_passAll 125 = .ok (.bipush 8, 2) := by decide +kernel
theorem dX8_passAll_127 : decode cX8_passAll 127 = .ok (.invokevirtual 311, 3) := by decide +kernel
theorem dX8_passAll_130 : decode cX8_passAll 130 = .ok (.aload_n 0, 1) := by decide +kernel
theorem dX8_passAll_131 : decode cX8_passAll 131 = .ok (.aload_n 0, 1) := by decide +kernel
theorem dX8_passAll_132 : decode cX8_passAll 132 = .ok (.getfield 31, 3) := by decide +kernel
theorem dX8_passAll_135 : decode cX8_passAll 135 = .ok (.bipush 8, 2) := by decide +kernel
theorem dX8_passAll_137 : decode cX8_passAll 137 = .ok (.invokevirtual 311, 3) := by decide +kernel
theorem dX8_passAll_140 : decode cX8_passAll 140 = .ok (.return_, 1) := by decide +kernel
theorem dX8_image_0 : decode cX8_image 0 = .ok (.iload_n 1, 1) := by decide +kernel
theorem dX8_image_1 : decode cX8_image 1 = .ok (.i2l, 1) := by decide +kernel
theorem dX8_image_2 : decode cX8_image 2 = .ok (.lconst 0, 1) := by decide +kernel
theorem dX8_image_3 : decode cX8_image 3 = .ok (.lconst 1, 1) := by decide +kernel
theorem dX8_image_4 : decode cX8_image 4 = .ok (.invokestatic 80, 3) := by decide +kernel
theorem dX8_image_7 : decode cX8_image 7 = .ok (.ifCond .ne 6, 3) := by decide +kernel
theorem dX8_image_10 : decode cX8_image 10 = .ok (.bipush (-2), 2) := by decide +kernel
theorem dX8_image_12 : decode cX8_image 12 = .ok (.ireturn, 1) := by decide +kernel
theorem dX8_image_13 : decode cX8_image 13 = .ok (.aload_n 0, 1) := by decide +kernel
theorem dX8_image_14 : decode cX8_image 14 = .ok (.bipush 100, 2) := by decide +kernel
theorem dX8_image_16 : decode cX8_image 16 = .ok (.iload_n 1, 1) := by decide +kernel
theorem dX8_image_17 : decode cX8_image 17 = .ok (.imul, 1) := by decide +kernel
theorem dX8_image_18 : decode cX8_image 18 = .ok (.putfield 305, 3) := by decide +kernel
theorem dX8_image_21 : decode cX8_image 21 = .ok (.aload_n 0, 1) := by decide +kernel
theorem dX8_image_22 : decode cX8_image 22 = .ok (.iconst 1, 1) := by decide +kernel
theorem dX8_image_23 : decode cX8_image 23 = .ok (.putfield 301, 3) := by decide +kernel
theorem dX8_image_26 : decode cX8_image 26 = .ok (.aload_n 0, 1) := by decide +kernel
theorem dX8_image_27 : decode cX8_image 27 = .ok (.invokevirtual 315, 3) := by decide +kernel
theorem dX8_image_30 : decode cX8_image 30 = .ok (.aload_n 0, 1) := by decide +kernel
theorem dX8_image_31 : decode cX8_image 31 = .ok (.getfield 74, 3) := by decide +kernel
theorem dX8_image_34 : decode cX8_image 34 = .ok (.iload_n 1, 1) := by decide +kernel
theorem dX8_image_35 : decode cX8_image 35 = .ok (.iconst 1, 1) := by decide +kernel
theorem dX8_image_36 : decode cX8_image 36 = .ok (.bastore, 1) := by decide +kernel
theorem dX8_image_37 : decode cX8_image 37 = .ok (.iconst 1, 1) := by decide +kernel
theorem dX8_image_38 : decode cX8_image 38 = .ok (.ireturn, 1) := by decide +kernel
theorem dX8_restore_0 : decode cX8_restore 0 = .ok (.iload_n 1, 1) := by decide +kernel
theorem dX8_restore_1 : decode cX8_restore 1 = .ok (.i2l, 1) := by decide +kernel
theorem dX8_restore_2 : decode cX8_restore 2 = .ok (.lconst 0, 1) := by decide +kernel
theorem dX8_restore_3 : decode cX8_restore 3 = .ok (.lconst 1, 1) := by decide +kernel
theorem dX8_restore_4 : decode cX8_restore 4 = .ok (.invokestatic 80, 3) := by decide +kernel
theorem dX8_restore_7 : decode cX8_restore 7 = .ok (.ifCond .ne 6, 3) := by decide +kernel
theorem dX8_restore_10 : decode cX8_restore 10 = .ok (.bipush (-2), 2) := by decide +kernel
theorem dX8_restore_12 : decode cX8_restore 12 = .ok (.ireturn, 1) := by decide +kernel
theorem dX8_restore_13 : decode cX8_restore 13 = .ok (.aload_n 0, 1) := by decide +kernel
theorem dX8_restore_14 : decode cX8_restore 14 = .ok (.getfield 74, 3) := by decide +kernel
theorem dX8_restore_17 : decode cX8_restore 17 = .ok (.iload_n 1, 1) := by decide +kernel
theorem dX8_restore_18 : decode cX8_restore 18 = .ok (.baload, 1) := by decide +kernel
theorem dX8_restore_19 : decode cX8_restore 19 = .ok (.ifCond .ne 6, 3) := by decide +kernel
theorem dX8_restore_22 : decode cX8_restore 22 = .ok (.bipush (-3), 2) := by decide +kernel
theorem dX8_restore_24 : decode cX8_restore 24 = .ok (.ireturn, 1) := by decide +kernel
theorem dX8_restore_25 : decode cX8_restore 25 = .ok (.aload_n 0, 1) := by decide +kernel
theorem dX8_restore_26 : decode cX8_restore 26 = .ok (.bipush 100, 2) := by decide +kernel
theorem dX8_restore_28 : decode cX8_restore 28 = .ok (.iload_n 1, 1) := by decide +kernel
theorem dX8_restore_29 : decode cX8_restore 29 = .ok (.imul, 1) := by decide +kernel
theorem dX8_restore_30 : decode cX8_restore 30 = .ok (.putfield 305, 3) := by decide +kernel
theorem dX8_restore_33 : decode cX8_restore 33 = .ok (.aload_n 0, 1) := by decide +kernel
theorem dX8_restore_34 : decode cX8_restore 34 = .ok (.iconst 0, 1) := by decide +kernel
theorem dX8_restore_35 : decode cX8_restore 35 = .ok (.putfield 301, 3) := by decide +kernel
theorem dX8_restore_38 : decode cX8_restore 38 = .ok (.aload_n 0, 1) := by decide +kernel
theorem dX8_restore_39 : decode cX8_restore 39 = .ok (.invokevirtual 315, 3) := by decide +kernel
theorem dX8_restore_42 : decode cX8_restore 42 = .ok (.iconst 1, 1) := by decide +kernel
theorem dX8_restore_43 : decode cX8_restore 43 = .ok (.ireturn, 1) := by decide +kernel
theorem dX8_toldOfOne_0 : decode cX8_toldOfOne 0 = .ok (.iload_n 2, 1) := by decide +kernel
theorem dX8_toldOfOne_1 : decode cX8_toldOfOne 1 = .ok (.iconst 3, 1) := by decide +kernel
theorem dX8_toldOfOne_2 : decode cX8_toldOfOne 2 = .ok (.if_icmp .ge 12, 3) := by decide +kernel
theorem dX8_toldOfOne_5 : decode cX8_toldOfOne 5 = .ok (.aload_n 0, 1) := by decide +kernel
theorem dX8_toldOfOne_6 : decode cX8_toldOfOne 6 = .ok (.iload_n 1, 1) := by decide +kernel
theorem dX8_toldOfOne_7 : decode cX8_toldOfOne 7 = .ok (.iload_n 2, 1) := by decide +kernel
theorem dX8_toldOfOne_8 : decode cX8_toldOfOne 8 = .ok (.invokevirtual 237, 3) := by decide +kernel
theorem dX8_toldOfOne_11 : decode cX8_toldOfOne 11 = .ok (.goto 5, 3) := by decide +kernel
theorem dX8_toldOfOne_14 : decode cX8_toldOfOne 14 = .ok (.bipush (-2), 2) := by decide +kernel
theorem dX8_toldOfOne_16 : decode cX8_toldOfOne 16 = .ok (.ireturn, 1) := by decide +kernel
theorem dX8_toldOfAll_0 : decode cX8_toldOfAll 0 = .ok (.iload_n 1, 1) := by decide +kernel
theorem dX8_toldOfAll_1 : decode cX8_toldOfAll 1 = .ok (.tableswitch 96 0 8 #[51, 56, 61, 66, 71, 76, 81, 86, 91], 51) := by decide +kernel
theorem dX8_toldOfAll_52 : decode cX8_toldOfAll 52 = .ok (.aload_n 0, 1) := by decide +kernel
theorem dX8_toldOfAll_53 : decode cX8_toldOfAll 53 = .ok (.getfield 109, 3) := by decide +kernel
theorem dX8_toldOfAll_56 : decode cX8_toldOfAll 56 = .ok (.ireturn, 1) := by decide +kernel
theorem dX8_toldOfAll_57 : decode cX8_toldOfAll 57 = .ok (.aload_n 0, 1) := by decide +kernel
theorem dX8_toldOfAll_58 : decode cX8_toldOfAll 58 = .ok (.getfield 98, 3) := by decide +kernel
theorem dX8_toldOfAll_61 : decode cX8_toldOfAll 61 = .ok (.ireturn, 1) := by decide +kernel
theorem dX8_toldOfAll_62 : decode cX8_toldOfAll 62 = .ok (.aload_n 0, 1) := by decide +kernel
theorem dX8_toldOfAll_63 : decode cX8_toldOfAll 63 = .ok (.getfield 102, 3) := by decide +kernel
theorem dX8_toldOfAll_66 : decode cX8_toldOfAll 66 = .ok (.ireturn, 1) := by decide +kernel
theorem dX8_toldOfAll_67 : decode cX8_toldOfAll 67 = .ok (.aload_n 0, 1) := by decide +kernel
theorem dX8_toldOfAll_68 : decode cX8_toldOfAll 68 = .ok (.getfield 183, 3) := by decide +kernel
theorem dX8_toldOfAll_71 : decode cX8_toldOfAll 71 = .ok (.ireturn, 1) := by decide +kernel
theorem dX8_toldOfAll_72 : decode cX8_toldOfAll 72 = .ok (.aload_n 0, 1) := by decide +kernel
theorem dX8_toldOfAll_73 : decode cX8_toldOfAll 73 = .ok (.getfield 180, 3) := by decide +kernel
theorem dX8_toldOfAll_76 : decode cX8_toldOfAll 76 = .ok (.ireturn, 1) := by decide +kernel
theorem dX8_toldOfAll_77 : decode cX8_toldOfAll 77 = .ok (.aload_n 0, 1) := by decide +kernel
theorem dX8_toldOfAll_78 : decode cX8_toldOfAll 78 = .ok (.getfield 276, 3) := by decide +kernel
theorem dX8_toldOfAll_81 : decode cX8_toldOfAll 81 = .ok (.ireturn, 1) := by decide +kernel
theorem dX8_toldOfAll_82 : decode cX8_toldOfAll 82 = .ok (.aload_n 0, 1) := by decide +kernel
theorem dX8_toldOfAll_83 : decode cX8_toldOfAll 83 = .ok (.invokevirtual 157, 3) := by decide +kernel
theorem dX8_toldOfAll_86 : decode cX8_toldOfAll 86 = .ok (.ireturn, 1) := by decide +kernel
theorem dX8_toldOfAll_87 : decode cX8_toldOfAll 87 = .ok (.aload_n 0, 1) := by decide +kernel
theorem dX8_toldOfAll_88 : decode cX8_toldOfAll 88 = .ok (.invokevirtual 153, 3) := by decide +kernel
theorem dX8_toldOfAll_91 : decode cX8_toldOfAll 91 = .ok (.ireturn, 1) := by decide +kernel
theorem dX8_toldOfAll_92 : decode cX8_toldOfAll 92 = .ok (.aload_n 0, 1) := by decide +kernel
theorem dX8_toldOfAll_93 : decode cX8_toldOfAll 93 = .ok (.invokevirtual 164, 3) := by decide +kernel
theorem dX8_toldOfAll_96 : decode cX8_toldOfAll 96 = .ok (.ireturn, 1) := by decide +kernel
theorem dX8_toldOfAll_97 : decode cX8_toldOfAll 97 = .ok (.bipush (-2), 2) := by decide +kernel
theorem dX8_toldOfAll_99 : decode cX8_toldOfAll 99 = .ok (.ireturn, 1) := by decide +kernel
theorem dX8_told_0 : decode cX8_told 0 = .ok (.iload_n 1, 1) := by decide +kernel
theorem dX8_told_1 : decode cX8_told 1 = .ok (.i2l, 1) := by decide +kernel
theorem dX8_told_2 : decode cX8_told 2 = .ok (.ldc2_w 318, 3) := by decide +kernel
theorem dX8_told_5 : decode cX8_told 5 = .ok (.ldc2_w 320, 3) := by decide +kernel
theorem dX8_told_8 : decode cX8_told 8 = .ok (.invokestatic 80, 3) := by decide +kernel
theorem dX8_told_11 : decode cX8_told 11 = .ok (.ifCond .eq 39, 3) := by decide +kernel
theorem dX8_told_14 : decode cX8_told 14 = .ok (.iload_n 1, 1) := by decide +kernel
theorem dX8_told_15 : decode cX8_told 15 = .ok (.bipush 10, 2) := by decide +kernel
theorem dX8_told_17 : decode cX8_told 17 = .ok (.irem, 1) := by decide +kernel
theorem dX8_told_18 : decode cX8_told 18 = .ok (.bipush 6, 2) := by decide +kernel
theorem dX8_told_20 : decode cX8_told 20 = .ok (.if_icmp .ge 27, 3) := by decide +kernel
theorem dX8_told_23 : decode cX8_told 23 = .ok (.aload_n 0, 1) := by decide +kernel
theorem dX8_told_24 : decode cX8_told 24 = .ok (.getfield 16, 3) := by decide +kernel
theorem dX8_told_27 : decode cX8_told 27 = .ok (.bipush 6, 2) := by decide +kernel
theorem dX8_told_29 : decode cX8_told 29 = .ok (.iload_n 1, 1) := by decide +kernel
theorem dX8_told_30 : decode cX8_told 30 = .ok (.sipush 200, 3) := by decide +kernel
theorem dX8_told_33 : decode cX8_told 33 = .ok (.isub, 1) := by decide +kernel
theorem dX8_told_34 : decode cX8_told 34 = .ok (.bipush 10, 2) := by decide +kernel
theorem dX8_told_36 : decode cX8_told 36 = .ok (.idiv, 1) := by decide +kernel
theorem dX8_told_37 : decode cX8_told 37 = .ok (.imul, 1) := by decide +kernel
theorem dX8_told_38 : decode cX8_told 38 = .ok (.iload_n 1, 1) := by decide +kernel
theorem dX8_told_39 : decode cX8_told 39 = .ok (.bipush 10, 2) := by decide +kernel
theorem dX8_told_41 : decode cX8_told 41 = .ok (.irem, 1) := by decide +kernel
theorem dX8_told_42 : decode cX8_told 42 = .ok (.iadd, 1) := by decide +kernel
theorem dX8_told_43 : decode cX8_told 43 = .ok (.iaload, 1) := by decide +kernel
theorem dX8_told_44 : decode cX8_told 44 = .ok (.goto 5, 3) := by decide +kernel
theorem dX8_told_47 : decode cX8_told 47 = .ok (.bipush (-2), 2) := by decide +kernel
theorem dX8_told_49 : decode cX8_told 49 = .ok (.ireturn, 1) := by decide +kernel
theorem dX8_told_50 : decode cX8_told 50 = .ok (.iload_n 1, 1) := by decide +kernel
theorem dX8_told_51 : decode cX8_told 51 = .ok (.i2l, 1) := by decide +kernel
theorem dX8_told_52 : decode cX8_told 52 = .ok (.ldc2_w 151, 3) := by decide +kernel
theorem dX8_told_55 : decode cX8_told 55 = .ok (.ldc2_w 322, 3) := by decide +kernel
theorem dX8_told_58 : decode cX8_told 58 = .ok (.invokestatic 80, 3) := by decide +kernel
theorem dX8_told_61 : decode cX8_told 61 = .ok (.ifCond .eq 47, 3) := by decide +kernel
theorem dX8_told_64 : decode cX8_told 64 = .ok (.iload_n 1, 1) := by decide +kernel
theorem dX8_told_65 : decode cX8_told 65 = .ok (.bipush 100, 2) := by decide +kernel
theorem dX8_told_67 : decode cX8_told 67 = .ok (.isub, 1) := by decide +kernel
theorem dX8_told_68 : decode cX8_told 68 = .ok (.bipush 10, 2) := by decide +kernel
theorem dX8_told_70 : decode cX8_told 70 = .ok (.idiv, 1) := by decide +kernel
theorem dX8_told_71 : decode cX8_told 71 = .ok (.istore_n 2, 1) := by decide +kernel
theorem dX8_told_72 : decode cX8_told 72 = .ok (.iload_n 1, 1) := by decide +kernel
theorem dX8_told_73 : decode cX8_told 73 = .ok (.bipush 10, 2) := by decide +kernel
theorem dX8_told_75 : decode cX8_told 75 = .ok (.irem, 1) := by decide +kernel
theorem dX8_told_76 : decode cX8_told 76 = .ok (.ifCond .ne 12, 3) := by decide +kernel
theorem dX8_told_79 : decode cX8_told 79 = .ok (.aload_n 0, 1) := by decide +kernel
theorem dX8_told_80 : decode cX8_told 80 = .ok (.getfield 19, 3) := by decide +kernel
theorem dX8_told_83 : decode cX8_told 83 = .ok (.iload_n 2, 1) := by decide +kernel
theorem dX8_told_84 : decode cX8_told 84 = .ok (.iaload, 1) := by decide +kernel
theorem dX8_told_85 : decode cX8_told 85 = .ok (.goto 22, 3) := by decide +kernel
theorem dX8_told_88 : decode cX8_told 88 = .ok (.iload_n 1, 1) := by decide +kernel
theorem dX8_told_89 : decode cX8_told 89 = .ok (.bipush 10, 2) := by decide +kernel
theorem dX8_told_91 : decode cX8_told 91 = .ok (.irem, 1) := by decide +kernel
theorem dX8_told_92 : decode cX8_told 92 = .ok (.iconst 1, 1) := by decide +kernel
theorem dX8_told_93 : decode cX8_told 93 = .ok (.if_icmp .ne 12, 3) := by decide +kernel
theorem dX8_told_96 : decode cX8_told 96 = .ok (.aload_n 0, 1) := by decide +kernel
theorem dX8_told_97 : decode cX8_told 97 = .ok (.getfield 22, 3) := by decide +kernel
theorem dX8_told_100 : decode cX8_told 100 = .ok (.iload_n 2, 1) := by decide +kernel
theorem dX8_told_101 : decode cX8_told 101 = .ok (.iaload, 1) := by decide +kernel
theorem dX8_told_102 : decode cX8_told 102 = .ok (.goto 5, 3) := by decide +kernel
theorem dX8_told_105 : decode cX8_told 105 = .ok (.bipush (-2), 2) := by decide +kernel
theorem dX8_told_107 : decode cX8_told 107 = .ok (.ireturn, 1) := by decide +kernel
theorem dX8_told_108 : decode cX8_told 108 = .ok (.iload_n 1, 1) := by decide +kernel
theorem dX8_told_109 : decode cX8_told 109 = .ok (.i2l, 1) := by decide +kernel
theorem dX8_told_110 : decode cX8_told 110 = .ok (.ldc2_w 260, 3) := by decide +kernel
theorem dX8_told_113 : decode cX8_told 113 = .ok (.ldc2_w 324, 3) := by decide +kernel
theorem dX8_told_116 : decode cX8_told 116 = .ok (.invokestatic 80, 3) := by decide +kernel
theorem dX8_told_119 : decode cX8_told 119 = .ok (.ifCond .eq 20, 3) := by decide +kernel
theorem dX8_told_122 : decode cX8_told 122 = .ok (.aload_n 0, 1) := by decide +kernel
theorem dX8_told_123 : decode cX8_told 123 = .ok (.iload_n 1, 1) := by decide +kernel
theorem dX8_told_124 : decode cX8_told 124 = .ok (.bipush 10, 2) := by decide +kernel
theorem dX8_told_126 : decode cX8_told 126 = .ok (.idiv, 1) := by decide +kernel
theorem dX8_told_127 : decode cX8_told 127 = .ok (.iconst 1, 1) := by decide +kernel
theorem dX8_told_128 : decode cX8_told 128 = .ok (.isub, 1) := by decide +kernel
theorem dX8_told_129 : decode cX8_told 129 = .ok (.iload_n 1, 1) := by decide +kernel
theorem dX8_told_130 : decode cX8_told 130 = .ok (.bipush 10, 2) := by decide +kernel
theorem dX8_told_132 : decode cX8_told 132 = .ok (.irem, 1) := by decide +kernel
theorem dX8_told_133 : decode cX8_told 133 = .ok (.invokevirtual 326, 3) := by decide +kernel
theorem dX8_told_136 : decode cX8_told 136 = .ok (.goto 8, 3) := by decide +kernel
theorem dX8_told_139 : decode cX8_told 139 = .ok (.aload_n 0, 1) := by decide +kernel
theorem dX8_told_140 : decode cX8_told 140 = .ok (.iload_n 1, 1) := by decide +kernel
theorem dX8_told_141 : decode cX8_told 141 = .ok (.invokevirtual 329, 3) := by decide +kernel
theorem dX8_told_144 : decode cX8_told 144 = .ok (.ireturn, 1) := by decide +kernel
end
section
theorem dL_law_0 : decode cL_law 0 = .ok (.new 7, 3) := by decide +kernel
theorem dL_law_3 : decode cL_law 3 = .ok (.dup, 1) := by decide +kernel
theorem dL_law_4 : decode cL_law 4 = .ok (.invokespecial 9, 3) := by decide +kernel
theorem dL_law_7 : decode cL_law 7 = .ok (.astore_n 1, 1) := by decide +kernel
theorem dL_law_8 : decode cL_law 8 = .ok (.new 10, 3) := by decide +kernel
theorem dL_law_11 : decode cL_law 11 = .ok (.dup, 1) := by decide +kernel
theorem dL_law_12 : decode cL_law 12 = .ok (.invokespecial 12, 3) := by decide +kernel
theorem dL_law_15 : decode cL_law 15 = .ok (.astore_n 2, 1) := by decide +kernel
theorem dL_law_16 : decode cL_law 16 = .ok (.iconst 0, 1) := by decide +kernel
theorem dL_law_17 : decode cL_law 17 = .ok (.istore_n 3, 1) := by decide +kernel
theorem dL_law_18 : decode cL_law 18 = .ok (.iload_n 3, 1) := by decide +kernel
theorem dL_law_19 : decode cL_law 19 = .ok (.aload_n 0, 1) := by decide +kernel
theorem dL_law_20 : decode cL_law 20 = .ok (.arraylength, 1) := by decide +kernel
theorem dL_law_21 : decode cL_law 21 = .ok (.bipush 6, 2) := by decide +kernel
theorem dL_law_23 : decode cL_law 23 = .ok (.isub, 1) := by decide +kernel
theorem dL_law_24 : decode cL_law 24 = .ok (.if_icmp .gt 981, 3) := by decide +kernel
theorem dL_law_27 : decode cL_law 27 = .ok (.aload_n 0, 1) := by decide +kernel
theorem dL_law_28 : decode cL_law 28 = .ok (.iload_n 3, 1) := by decide +kernel
theorem dL_law_29 : decode cL_law 29 = .ok (.iaload, 1) := by decide +kernel
theorem dL_law_30 : decode cL_law 30 = .ok (.bipush 31, 2) := by decide +kernel
theorem dL_law_32 : decode cL_law 32 = .ok (.iand, 1) := by decide +kernel
theorem dL_law_33 : decode cL_law 33 = .ok (.tableswitch 966 0 26 #[123, 166, 209, 252, 285, 308, 321, 334, 357, 390, 413, 436, 449, 472, 495, 528, 571, 604, 668, 732, 775, 788, 821, 854, 897, 920, 943], 123) := by decide +kernel
theorem dL_law_156 : decode cL_law 156 = .ok (.aload_n 1, 1) := by decide +kernel
theorem dL_law_157 : decode cL_law 157 = .ok (.aload_n 0, 1) := by decide +kernel
theorem dL_law_158 : decode cL_law 158 = .ok (.iload_n 3, 1) := by decide +kernel
theorem dL_law_159 : decode cL_law 159 = .ok (.iconst 1, 1) := by decide +kernel
theorem dL_law_160 : decode cL_law 160 = .ok (.iadd, 1) := by decide +kernel
theorem dL_law_161 : decode cL_law 161 = .ok (.iaload, 1) := by decide +kernel
theorem dL_law_162 : decode cL_law 162 = .ok (.aload_n 0, 1) := by decide +kernel
theorem dL_law_163 : decode cL_law 163 = .ok (.iload_n 3, 1) := by decide +kernel
theorem dL_law_164 : decode cL_law 164 = .ok (.iconst 2, 1) := by decide +kernel
theorem dL_law_165 : decode cL_law 165 = .ok (.iadd, 1) := by decide +kernel
theorem dL_law_166 : decode cL_law 166 = .ok (.iaload, 1) := by decide +kernel
theorem dL_law_167 : decode cL_law 167 = .ok (.aload_n 0, 1) := by decide +kernel
theorem dL_law_168 : decode cL_law 168 = .ok (.iload_n 3, 1) := by decide +kernel
theorem dL_law_169 : decode cL_law 169 = .ok (.iconst 3, 1) := by decide +kernel
theorem dL_law_170 : decode cL_law 170 = .ok (.iadd, 1) := by decide +kernel
theorem dL_law_171 : decode cL_law 171 = .ok (.iaload, 1) := by decide +kernel
theorem dL_law_172 : decode cL_law 172 = .ok (.invokevirtual 13, 3) := by decide +kernel
theorem dL_law_175 : decode cL_law 175 = .ok (.aload_n 2, 1) := by decide +kernel
theorem dL_law_176 : decode cL_law 176 = .ok (.aload_n 0, 1) := by decide +kernel
theorem dL_law_177 : decode cL_law 177 = .ok (.iload_n 3, 1) := by decide +kernel
theorem dL_law_178 : decode cL_law 178 = .ok (.iconst 1, 1) := by decide +kernel
theorem dL_law_179 : decode cL_law 179 = .ok (.iadd, 1) := by decide +kernel
theorem dL_law_180 : decode cL_law 180 = .ok (.iaload, 1) := by decide +kernel
theorem dL_law_181 : decode cL_law 181 = .ok (.aload_n 0, 1) := by decide +kernel
theorem dL_law_182 : decode cL_law 182 = .ok (.iload_n 3, 1) := by decide +kernel
theorem dL_law_183 : decode cL_law 183 = .ok (.iconst 2, 1) := by decide +kernel
theorem dL_law_184 : decode cL_law 184 = .ok (.iadd, 1) := by decide +kernel
theorem dL_law_185 : decode cL_law 185 = .ok (.iaload, 1) := by decide +kernel
theorem dL_law_186 : decode cL_law 186 = .ok (.aload_n 0, 1) := by decide +kernel
theorem dL_law_187 : decode cL_law 187 = .ok (.iload_n 3, 1) := by decide +kernel
theorem dL_law_188 : decode cL_law 188 = .ok (.iconst 3, 1) := by decide +kernel
theorem dL_law_189 : decode cL_law 189 = .ok (.iadd, 1) := by decide +kernel
theorem dL_law_190 : decode cL_law 190 = .ok (.iaload, 1) := by decide +kernel
theorem dL_law_191 : decode cL_law 191 = .ok (.invokevirtual 17, 3) := by decide +kernel
theorem dL_law_194 : decode cL_law 194 = .ok (.if_icmp .eq 805, 3) := by decide +kernel
theorem dL_law_197 : decode cL_law 197 = .ok (.iconst 0, 1) := by decide +kernel
theorem dL_law_198 : decode cL_law 198 = .ok (.ireturn, 1) := by decide +kernel
theorem dL_law_199 : decode cL_law 199 = .ok (.aload_n 1, 1) := by decide +kernel
theorem dL_law_200 : decode cL_law 200 = .ok (.aload_n 0, 1) := by decide +kernel
theorem dL_law_201 : decode cL_law 201 = .ok (.iload_n 3, 1) := by decide +kernel
theorem dL_law_202 : decode cL_law 202 = .ok (.iconst 1, 1) := by decide +kernel
theorem dL_law_203 : decode cL_law 203 = .ok (.iadd, 1) := by decide +kernel
theorem dL_law_204 : decode cL_law 204 = .ok (.iaload, 1) := by decide +kernel
theorem dL_law_205 : decode cL_law 205 = .ok (.aload_n 0, 1) := by decide +kernel
theorem dL_law_206 : decode cL_law 206 = .ok (.iload_n 3, 1) := by decide +kernel
theorem dL_law_207 : decode cL_law 207 = .ok (.iconst 2, 1) := by decide +kernel
theorem dL_law_208 : decode cL_law 208 = .ok (.iadd, 1) := by decide +kernel
theorem dL_law_209 : decode cL_law 209 = .ok (.iaload, 1) := by decide +kernel
theorem dL_law_210 : decode cL_law 210 = .ok (.aload_n 0, 1) := by decide +kernel
theorem dL_law_211 : decode cL_law 211 = .ok (.iload_n 3, 1) := by decide +kernel
theorem dL_law_212 : decode cL_law 212 = .ok (.iconst 3, 1) := by decide +kernel
theorem dL_law_213 : decode cL_law 213 = .ok (.iadd, 1) := by decide +kernel
theorem dL_law_214 : decode cL_law 214 = .ok (.iaload, 1) := by decide +kernel
theorem dL_law_215 : decode cL_law 215 = .ok (.invokevirtual 18, 3) := by decide +kernel
theorem dL_law_218 : decode cL_law 218 = .ok (.aload_n 2, 1) := by decide +kernel
theorem dL_law_219 : decode cL_law 219 = .ok (.aload_n 0, 1) := by decide +kernel
theorem dL_law_220 : decode cL_law 220 = .ok (.iload_n 3, 1) := by decide +kernel
theorem dL_law_221 : decode cL_law 221 = .ok (.iconst 1, 1) := by decide +kernel
theorem dL_law_222 : decode cL_law 222 = .ok (.iadd, 1) := by decide +kernel
theorem dL_law_223 : decode cL_law 223 = .ok (.iaload, 1) := by decide +kernel
theorem dL_law_224 : decode cL_law 224 = .ok (.aload_n 0, 1) := by decide +kernel
theorem dL_law_225 : decode cL_law 225 = .ok (.iload_n 3, 1) := by decide +kernel
theorem dL_law_226 : decode cL_law 226 = .ok (.iconst 2, 1) := by decide +kernel
theorem dL_law_227 : decode cL_law 227 = .ok (.iadd, 1) := by decide +kernel
theorem dL_law_228 : decode cL_law 228 = .ok (.iaload, 1) := by decide +kernel
theorem dL_law_229 : decode cL_law 229 = .ok (.aload_n 0, 1) := by decide +kernel
theorem dL_law_230 : decode cL_law 230 = .ok (.iload_n 3, 1) := by decide +kernel
theorem dL_law_231 : decode cL_law 231 = .ok (.iconst 3, 1) := by decide +kernel
theorem dL_law_232 : decode cL_law 232 = .ok (.iadd, 1) := by decide +kernel
theorem dL_law_233 : decode cL_law 233 = .ok (.iaload, 1) := by decide +kernel
theorem dL_law_234 : decode cL_law 234 = .ok (.invokevirtual 21, 3) := by decide +kernel
theorem dL_law_237 : decode cL_law 237 = .ok (.if_icmp .eq 762, 3) := by decide +kernel
theorem dL_law_240 : decode cL_law 240 = .ok (.iconst 0, 1) := by decide +kernel
theorem dL_law_241 : decode cL_law 241 = .ok (.ireturn, 1) := by decide +kernel
theorem dL_law_242 : decode cL_law 242 = .ok (.aload_n 1, 1) := by decide +kernel
theorem dL_law_243 : decode cL_law 243 = .ok (.aload_n 0, 1) := by decide +kernel
theorem dL_law_244 : decode cL_law 244 = .ok (.iload_n 3, 1) := by decide +kernel
theorem dL_law_245 : decode cL_law 245 = .ok (.iconst 1, 1) := by decide +kernel
theorem dL_law_246 : decode cL_law 246 = .ok (.iadd, 1) := by decide +kernel
theorem dL_law_247 : decode cL_law 247 = .ok (.iaload, 1) := by decide +kernel
theorem dL_law_248 : decode cL_law 248 = .ok (.aload_n 0, 1) := by decide +kernel
theorem dL_law_249 : decode cL_law 249 = .ok (.iload_n 3, 1) := by decide +kernel
theorem dL_law_250 : decode cL_law 250 = .ok (.iconst 2, 1) := by decide +kernel
theorem dL_law_251 : decode cL_law 251 = .ok (.iadd, 1) := by decide +kernel
theorem dL_law_252 : decode cL_law 252 = .ok (.iaload, 1) := by decide +kernel
theorem dL_law_253 : decode cL_law 253 = .ok (.aload_n 0, 1) := by decide +kernel
theorem dL_law_254 : decode cL_law 254 = .ok (.iload_n 3, 1) := by decide +kernel
theorem dL_law_255 : decode cL_law 255 = .ok (.iconst 3, 1) := by decide +kernel
theorem dL_law_256 : decode cL_law 256 = .ok (.iadd, 1) := by decide +kernel
theorem dL_law_257 : decode cL_law 257 = .ok (.iaload, 1) := by decide +kernel
theorem dL_law_258 : decode cL_law 258 = .ok (.invokevirtual 22, 3) := by decide +kernel
theorem dL_law_261 : decode cL_law 261 = .ok (.aload_n 2, 1) := by decide +kernel
theorem dL_law_262 : decode cL_law 262 = .ok (.aload_n 0, 1) := by decide +kernel
theorem dL_law_263 : decode cL_law 263 = .ok (.iload_n 3, 1) := by decide +kernel
theorem dL_law_264 : decode cL_law 264 = .ok (.iconst 1, 1) := by decide +kernel
theorem dL_law_265 : decode cL_law 265 = .ok (.iadd, 1) := by decide +kernel
theorem dL_law_266 : decode cL_law 266 = .ok (.iaload, 1) := by decide +kernel
theorem dL_law_267 : decode cL_law 267 = .ok (.aload_n 0, 1) := by decide +kernel
theorem dL_law_268 : decode cL_law 268 = .ok (.iload_n 3, 1) := by decide +kernel
theorem dL_law_269 : decode cL_law 269 = .ok (.iconst 2, 1) := by decide +kernel
theorem dL_law_270 : decode cL_law 270 = .ok (.iadd, 1) := by decide +kernel
theorem dL_law_271 : decode cL_law 271 = .ok (.iaload, 1) := by decide +kernel
theorem dL_law_272 : decode cL_law 272 = .ok (.aload_n 0, 1) := by decide +kernel
theorem dL_law_273 : decode cL_law 273 = .ok (.iload_n 3, 1) := by decide +kernel
theorem dL_law_274 : decode cL_law 274 = .ok (.iconst 3, 1) := by decide +kernel
theorem dL_law_275 : decode cL_law 275 = .ok (.iadd, 1) := by decide +kernel
theorem dL_law_276 : decode cL_law 276 = .ok (.iaload, 1) := by decide +kernel
theorem dL_law_277 : decode cL_law 277 = .ok (.invokevirtual 25, 3) := by decide +kernel
theorem dL_law_280 : decode cL_law 280 = .ok (.if_icmp .eq 719, 3) := by decide +kernel
theorem dL_law_283 : decode cL_law 283 = .ok (.iconst 0, 1) := by decide +kernel
theorem dL_law_284 : decode cL_law 284 = .ok (.ireturn, 1) := by decide +kernel
theorem dL_law_285 : decode cL_law 285 = .ok (.aload_n 1, 1) := by decide +kernel
theorem dL_law_286 : decode cL_law 286 = .ok (.aload_n 0, 1) := by decide +kernel
theorem dL_law_287 : decode cL_law 287 = .ok (.iload_n 3, 1) := by decide +kernel
theorem dL_law_288 : decode cL_law 288 = .ok (.iconst 1, 1) := by decide +kernel
theorem dL_law_289 : decode cL_law 289 = .ok (.iadd, 1) := by decide +kernel
theorem dL_law_290 : decode cL_law 290 = .ok (.iaload, 1) := by decide +kernel
theorem dL_law_291 : decode cL_law 291 = .ok (.aload_n 0, 1) := by decide +kernel
theorem dL_law_292 : decode cL_law 292 = .ok (.iload_n 3, 1) := by decide +kernel
theorem dL_law_293 : decode cL_law 293 = .ok (.iconst 2, 1) := by decide +kernel
theorem dL_law_294 : decode cL_law 294 = .ok (.iadd, 1) := by decide +kernel
theorem dL_law_295 : decode cL_law 295 = .ok (.iaload, 1) := by decide +kernel
theorem dL_law_296 : decode cL_law 296 = .ok (.invokevirtual 26, 3) := by decide +kernel
theorem dL_law_299 : decode cL_law 299 = .ok (.aload_n 2, 1) := by decide +kernel
theorem dL_law_300 : decode cL_law 300 = .ok (.aload_n 0, 1) := by decide +kernel
theorem dL_law_301 : decode cL_law 301 = .ok (.iload_n 3, 1) := by decide +kernel
theorem dL_law_302 : decode cL_law 302 = .ok (.iconst 1, 1) := by decide +kernel
theorem dL_law_303 : decode cL_law 303 = .ok (.iadd, 1) := by decide +kernel
theorem dL_law_304 : decode cL_law 304 = .ok (.iaload, 1) := by decide +kernel
theorem dL_law_305 : decode cL_law 305 = .ok (.aload_n 0, 1) := by decide +kernel
theorem dL_law_306 : decode cL_law 306 = .ok (.iload_n 3, 1) := by decide +kernel
theorem dL_law_307 : decode cL_law 307 = .ok (.iconst 2, 1) := by decide +kernel
theorem dL_law_308 : decode cL_law 308 = .ok (.iadd, 1) := by decide +kernel
theorem dL_law_309 : decode cL_law 309 = .ok (.iaload, 1) := by decide +kernel
theorem dL_law_310 : decode cL_law 310 = .ok (.invokevirtual 30, 3) := by decide +kernel
theorem dL_law_313 : decode cL_law 313 = .ok (.if_icmp .eq 686, 3) := by decide +kernel
theorem dL_law_316 : decode cL_law 316 = .ok (.iconst 0, 1) := by decide +kernel
theorem dL_law_317 : decode cL_law 317 = .ok (.ireturn, 1) := by decide +kernel
theorem dL_law_318 : decode cL_law 318 = .ok (.aload_n 1, 1) := by decide +kernel
theorem dL_law_319 : decode cL_law 319 = .ok (.aload_n 0, 1) := by decide +kernel
theorem dL_law_320 : decode cL_law 320 = .ok (.iload_n 3, 1) := by decide +kernel
theorem dL_law_321 : decode cL_law 321 = .ok (.iconst 1, 1) := by decide +kernel
theorem dL_law_322 : decode cL_law 322 = .ok (.iadd, 1) := by decide +kernel
theorem dL_law_323 : decode cL_law 323 = .ok (.iaload, 1) := by decide +kernel
theorem dL_law_324 : decode cL_law 324 = .ok (.invokevirtual 31, 3) := by decide +kernel
theorem dL_law_327 : decode cL_law 327 = .ok (.aload_n 2, 1) := by decide +kernel
theorem dL_law_328 : decode cL_law 328 = .ok (.aload_n 0, 1) := by decide +kernel
theorem dL_law_329 : decode cL_law 329 = .ok (.iload_n 3, 1) := by decide +kernel
theorem dL_law_330 : decode cL_law 330 = .ok (.iconst 1, 1) := by decide +kernel
theorem dL_law_331 : decode cL_law 331 = .ok (.iadd, 1) := by decide +kernel
theorem dL_law_332 : decode cL_law 332 = .ok (.iaload, 1) := by decide +kernel
theorem dL_law_333 : decode cL_law 333 = .ok (.invokevirtual 35, 3) := by decide +kernel
theorem dL_law_336 : decode cL_law 336 = .ok (.if_icmp .eq 663, 3) := by decide +kernel
theorem dL_law_339 : decode cL_law 339 = .ok (.iconst 0, 1) := by decide +kernel
theorem dL_law_340 : decode cL_law 340 = .ok (.ireturn, 1) := by decide +kernel
theorem dL_law_341 : decode cL_law 341 = .ok (.aload_n 1, 1) := by decide +kernel
theorem dL_law_342 : decode cL_law 342 = .ok (.invokevirtual 36, 3) := by decide +kernel
theorem dL_law_345 : decode cL_law 345 = .ok (.aload_n 2, 1) := by decide +kernel
theorem dL_law_346 : decode cL_law 346 = .ok (.invokevirtual 40, 3) := by decide +kernel
theorem dL_law_349 : decode cL_law 349 = .ok (.if_icmp .eq 650, 3) := by decide +kernel
theorem dL_law_352 : decode cL_law 352 = .ok (.iconst 0, 1) := by decide +kernel
theorem dL_law_353 : decode cL_law 353 = .ok (.ireturn, 1) := by decide +kernel
theorem dL_law_354 : decode cL_law 354 = .ok (.aload_n 1, 1) := by decide +kernel
theorem dL_law_355 : decode cL_law 355 = .ok (.invokevirtual 41, 3) := by decide +kernel
theorem dL_law_358 : decode cL_law 358 = .ok (.aload_n 2, 1) := by decide +kernel
theorem dL_law_359 : decode cL_law 359 = .ok (.invokevirtual 44, 3) := by decide +kernel
theorem dL_law_362 : decode cL_law 362 = .ok (.if_icmp .eq 637, 3) := by decide +kernel
theorem dL_law_365 : decode cL_law 365 = .ok (.iconst 0, 1) := by decide +kernel
theorem dL_law_366 : decode cL_law 366 = .ok (.ireturn, 1) := by decide +kernel
theorem dL_law_367 : decode cL_law 367 = .ok (.aload_n 1, 1) := by decide +kernel
theorem dL_law_368 : decode cL_law 368 = .ok (.aload_n 0, 1) := by decide +kernel
theorem dL_law_369 : decode cL_law 369 = .ok (.iload_n 3, 1) := by decide +kernel
theorem dL_law_370 : decode cL_law 370 = .ok (.iconst 1, 1) := by decide +kernel
theorem dL_law_371 : decode cL_law 371 = .ok (.iadd, 1) := by decide +kernel
theorem dL_law_372 : decode cL_law 372 = .ok (.iaload, 1) := by decide +kernel
theorem dL_law_373 : decode cL_law 373 = .ok (.invokevirtual 45, 3) := by decide +kernel
theorem dL_law_376 : decode cL_law 376 = .ok (.aload_n 2, 1) := by decide +kernel
theorem dL_law_377 : decode cL_law 377 = .ok (.aload_n 0, 1) := by decide +kernel
theorem dL_law_378 : decode cL_law 378 = .ok (.iload_n 3, 1) := by decide +kernel
theorem dL_law_379 : decode cL_law 379 = .ok (.iconst 1, 1) := by decide +kernel
theorem dL_law_380 : decode cL_law 380 = .ok (.iadd, 1) := by decide +kernel
theorem dL_law_381 : decode cL_law 381 = .ok (.iaload, 1) := by decide +kernel
theorem dL_law_382 : decode cL_law 382 = .ok (.invokevirtual 48, 3) := by decide +kernel
theorem dL_law_385 : decode cL_law 385 = .ok (.if_icmp .eq 614, 3) := by decide +kernel
theorem dL_law_388 : decode cL_law 388 = .ok (.iconst 0, 1) := by decide +kernel
theorem dL_law_389 : decode cL_law 389 = .ok (.ireturn, 1) := by decide +kernel
theorem dL_law_390 : decode cL_law 390 = .ok (.aload_n 1, 1) := by decide +kernel
theorem dL_law_391 : decode cL_law 391 = .ok (.aload_n 0, 1) := by decide +kernel
theorem dL_law_392 : decode cL_law 392 = .ok (.iload_n 3, 1) := by decide +kernel
theorem dL_law_393 : decode cL_law 393 = .ok (.iconst 1, 1) := by decide +kernel
theorem dL_law_394 : decode cL_law 394 = .ok (.iadd, 1) := by decide +kernel
theorem dL_law_395 : decode cL_law 395 = .ok (.iaload, 1) := by decide +kernel
theorem dL_law_396 : decode cL_law 396 = .ok (.aload_n 0, 1) := by decide +kernel
theorem dL_law_397 : decode cL_law 397 = .ok (.iload_n 3, 1) := by decide +kernel
theorem dL_law_398 : decode cL_law 398 = .ok (.iconst 2, 1) := by decide +kernel
theorem dL_law_399 : decode cL_law 399 = .ok (.iadd, 1) := by decide +kernel
theorem dL_law_400 : decode cL_law 400 = .ok (.iaload, 1) := by decide +kernel
theorem dL_law_401 : decode cL_law 401 = .ok (.invokevirtual 49, 3) := by decide +kernel
theorem dL_law_404 : decode cL_law 404 = .ok (.aload_n 2, 1) := by decide +kernel
theorem dL_law_405 : decode cL_law 405 = .ok (.aload_n 0, 1) := by decide +kernel
theorem dL_law_406 : decode cL_law 406 = .ok (.iload_n 3, 1) := by decide +kernel
theorem dL_law_407 : decode cL_law 407 = .ok (.iconst 1, 1) := by decide +kernel
theorem dL_law_408 : decode cL_law 408 = .ok (.iadd, 1) := by decide +kernel
theorem dL_law_409 : decode cL_law 409 = .ok (.iaload, 1) := by decide +kernel
theorem dL_law_410 : decode cL_law 410 = .ok (.aload_n 0, 1) := by decide +kernel
theorem dL_law_411 : decode cL_law 411 = .ok (.iload_n 3, 1) := by decide +kernel
theorem dL_law_412 : decode cL_law 412 = .ok (.iconst 2, 1) := by decide +kernel
theorem dL_law_413 : decode cL_law 413 = .ok (.iadd, 1) := by decide +kernel
theorem dL_law_414 : decode cL_law 414 = .ok (.iaload, 1) := by decide +kernel
theorem dL_law_415 : decode cL_law 415 = .ok (.invokevirtual 52, 3) := by decide +kernel
theorem dL_law_418 : decode cL_law 418 = .ok (.if_icmp .eq 581, 3) := by decide +kernel
theorem dL_law_421 : decode cL_law 421 = .ok (.iconst 0, 1) := by decide +kernel
theorem dL_law_422 : decode cL_law 422 = .ok (.ireturn, 1) := by decide +kernel
theorem dL_law_423 : decode cL_law 423 = .ok (.aload_n 1, 1) := by decide +kernel
theorem dL_law_424 : decode cL_law 424 = .ok (.aload_n 0, 1) := by decide +kernel
theorem dL_law_425 : decode cL_law 425 = .ok (.iload_n 3, 1) := by decide +kernel
theorem dL_law_426 : decode cL_law 426 = .ok (.iconst 1, 1) := by decide +kernel
theorem dL_law_427 : decode cL_law 427 = .ok (.iadd, 1) := by decide +kernel
theorem dL_law_428 : decode cL_law 428 = .ok (.iaload, 1) := by decide +kernel
theorem dL_law_429 : decode cL_law 429 = .ok (.invokevirtual 53, 3) := by decide +kernel
theorem dL_law_432 : decode cL_law 432 = .ok (.aload_n 2, 1) := by decide +kernel
theorem dL_law_433 : decode cL_law 433 = .ok (.aload_n 0, 1) := by decide +kernel
theorem dL_law_434 : decode cL_law 434 = .ok (.iload_n 3, 1) := by decide +kernel
theorem dL_law_435 : decode cL_law 435 = .ok (.iconst 1, 1) := by decide +kernel
theorem dL_law_436 : decode cL_law 436 = .ok (.iadd, 1) := by decide +kernel
theorem dL_law_437 : decode cL_law 437 = .ok (.iaload, 1) := by decide +kernel
theorem dL_law_438 : decode cL_law 438 = .ok (.invokevirtual 56, 3) := by decide +kernel
theorem dL_law_441 : decode cL_law 441 = .ok (.if_icmp .eq 558, 3) := by decide +kernel
theorem dL_law_444 : decode cL_law 444 = .ok (.iconst 0, 1) := by decide +kernel
theorem dL_law_445 : decode cL_law 445 = .ok (.ireturn, 1) := by decide +kernel
theorem dL_law_446 : decode cL_law 446 = .ok (.aload_n 1, 1) := by decide +kernel
theorem dL_law_447 : decode cL_law 447 = .ok (.aload_n 0, 1) := by decide +kernel
theorem dL_law_448 : decode cL_law 448 = .ok (.iload_n 3, 1) := by decide +kernel
theorem dL_law_449 : decode cL_law 449 = .ok (.iconst 1, 1) := by decide +kernel
theorem dL_law_450 : decode cL_law 450 = .ok (.iadd, 1) := by decide +kernel
theorem dL_law_451 : decode cL_law 451 = .ok (.iaload, 1) := by decide +kernel
theorem dL_law_452 : decode cL_law 452 = .ok (.invokevirtual 57, 3) := by decide +kernel
theorem dL_law_455 : decode cL_law 455 = .ok (.aload_n 2, 1) := by decide +kernel
theorem dL_law_456 : decode cL_law 456 = .ok (.aload_n 0, 1) := by decide +kernel
theorem dL_law_457 : decode cL_law 457 = .ok (.iload_n 3, 1) := by decide +kernel
theorem dL_law_458 : decode cL_law 458 = .ok (.iconst 1, 1) := by decide +kernel
theorem dL_law_459 : decode cL_law 459 = .ok (.iadd, 1) := by decide +kernel
theorem dL_law_460 : decode cL_law 460 = .ok (.iaload, 1) := by decide +kernel
theorem dL_law_461 : decode cL_law 461 = .ok (.invokevirtual 60, 3) := by decide +kernel
theorem dL_law_464 : decode cL_law 464 = .ok (.if_icmp .eq 535, 3) := by decide +kernel
theorem dL_law_467 : decode cL_law 467 = .ok (.iconst 0, 1) := by decide +kernel
theorem dL_law_468 : decode cL_law 468 = .ok (.ireturn, 1) := by decide +kernel
theorem dL_law_469 : decode cL_law 469 = .ok (.aload_n 1, 1) := by decide +kernel
theorem dL_law_470 : decode cL_law 470 = .ok (.invokevirtual 61, 3) := by decide +kernel
theorem dL_law_473 : decode cL_law 473 = .ok (.aload_n 2, 1) := by decide +kernel
theorem dL_law_474 : decode cL_law 474 = .ok (.invokevirtual 64, 3) := by decide +kernel
theorem dL_law_477 : decode cL_law 477 = .ok (.if_icmp .eq 522, 3) := by decide +kernel
theorem dL_law_480 : decode cL_law 480 = .ok (.iconst 0, 1) := by decide +kernel
theorem dL_law_481 : decode cL_law 481 = .ok (.ireturn, 1) := by decide +kernel
theorem dL_law_482 : decode cL_law 482 = .ok (.aload_n 1, 1) := by decide +kernel
theorem dL_law_483 : decode cL_law 483 = .ok (.aload_n 0, 1) := by decide +kernel
theorem dL_law_484 : decode cL_law 484 = .ok (.iload_n 3, 1) := by decide +kernel
theorem dL_law_485 : decode cL_law 485 = .ok (.iconst 1, 1) := by decide +kernel
theorem dL_law_486 : decode cL_law 486 = .ok (.iadd, 1) := by decide +kernel
theorem dL_law_487 : decode cL_law 487 = .ok (.iaload, 1) := by decide +kernel
theorem dL_law_488 : decode cL_law 488 = .ok (.invokevirtual 65, 3) := by decide +kernel
theorem dL_law_491 : decode cL_law 491 = .ok (.aload_n 2, 1) := by decide +kernel
theorem dL_law_492 : decode cL_law 492 = .ok (.aload_n 0, 1) := by decide +kernel
theorem dL_law_493 : decode cL_law 493 = .ok (.iload_n 3, 1) := by decide +kernel
theorem dL_law_494 : decode cL_law 494 = .ok (.iconst 1, 1) := by decide +kernel
theorem dL_law_495 : decode cL_law 495 = .ok (.iadd, 1) := by decide +kernel
theorem dL_law_496 : decode cL_law 496 = .ok (.iaload, 1) := by decide +kernel
theorem dL_law_497 : decode cL_law 497 = .ok (.invokevirtual 68, 3) := by decide +kernel
theorem dL_law_500 : decode cL_law 500 = .ok (.if_icmp .eq 499, 3) := by decide +kernel
theorem dL_law_503 : decode cL_law 503 = .ok (.iconst 0, 1) := by decide +kernel
theorem dL_law_504 : decode cL_law 504 = .ok (.ireturn, 1) := by decide +kernel
theorem dL_law_505 : decode cL_law 505 = .ok (.aload_n 1, 1) := by decide +kernel
theorem dL_law_506 : decode cL_law 506 = .ok (.aload_n 0, 1) := by decide +kernel
theorem dL_law_507 : decode cL_law 507 = .ok (.iload_n 3, 1) := by decide +kernel
theorem dL_law_508 : decode cL_law 508 = .ok (.iconst 1, 1) := by decide +kernel
theorem dL_law_509 : decode cL_law 509 = .ok (.iadd, 1) := by decide +kernel
theorem dL_law_510 : decode cL_law 510 = .ok (.iaload, 1) := by decide +kernel
theorem dL_law_511 : decode cL_law 511 = .ok (.invokevirtual 69, 3) := by decide +kernel
theorem dL_law_514 : decode cL_law 514 = .ok (.aload_n 2, 1) := by decide +kernel
theorem dL_law_515 : decode cL_law 515 = .ok (.aload_n 0, 1) := by decide +kernel
theorem dL_law_516 : decode cL_law 516 = .ok (.iload_n 3, 1) := by decide +kernel
theorem dL_law_517 : decode cL_law 517 = .ok (.iconst 1, 1) := by decide +kernel
theorem dL_law_518 : decode cL_law 518 = .ok (.iadd, 1) := by decide +kernel
theorem dL_law_519 : decode cL_law 519 = .ok (.iaload, 1) := by decide +kernel
theorem dL_law_520 : decode cL_law 520 = .ok (.invokevirtual 72, 3) := by decide +kernel
theorem dL_law_523 : decode cL_law 523 = .ok (.if_icmp .eq 476, 3) := by decide +kernel
theorem dL_law_526 : decode cL_law 526 = .ok (.iconst 0, 1) := by decide +kernel
theorem dL_law_527 : decode cL_law 527 = .ok (.ireturn, 1) := by decide +kernel
theorem dL_law_528 : decode cL_law 528 = .ok (.aload_n 1, 1) := by decide +kernel
theorem dL_law_529 : decode cL_law 529 = .ok (.aload_n 0, 1) := by decide +kernel
theorem dL_law_530 : decode cL_law 530 = .ok (.iload_n 3, 1) := by decide +kernel
theorem dL_law_531 : decode cL_law 531 = .ok (.iconst 1, 1) := by decide +kernel
theorem dL_law_532 : decode cL_law 532 = .ok (.iadd, 1) := by decide +kernel
theorem dL_law_533 : decode cL_law 533 = .ok (.iaload, 1) := by decide +kernel
theorem dL_law_534 : decode cL_law 534 = .ok (.aload_n 0, 1) := by decide +kernel
theorem dL_law_535 : decode cL_law 535 = .ok (.iload_n 3, 1) := by decide +kernel
theorem dL_law_536 : decode cL_law 536 = .ok (.iconst 2, 1) := by decide +kernel
theorem dL_law_537 : decode cL_law 537 = .ok (.iadd, 1) := by decide +kernel
theorem dL_law_538 : decode cL_law 538 = .ok (.iaload, 1) := by decide +kernel
theorem dL_law_539 : decode cL_law 539 = .ok (.invokevirtual 73, 3) := by decide +kernel
theorem dL_law_542 : decode cL_law 542 = .ok (.aload_n 2, 1) := by decide +kernel
theorem dL_law_543 : decode cL_law 543 = .ok (.aload_n 0, 1) := by decide +kernel
theorem dL_law_544 : decode cL_law 544 = .ok (.iload_n 3, 1) := by decide +kernel
theorem dL_law_545 : decode cL_law 545 = .ok (.iconst 1, 1) := by decide +kernel
theorem dL_law_546 : decode cL_law 546 = .ok (.iadd, 1) := by decide +kernel
theorem dL_law_547 : decode cL_law 547 = .ok (.iaload, 1) := by decide +kernel
theorem dL_law_548 : decode cL_law 548 = .ok (.aload_n 0, 1) := by decide +kernel
theorem dL_law_549 : decode cL_law 549 = .ok (.iload_n 3, 1) := by decide +kernel
theorem dL_law_550 : decode cL_law 550 = .ok (.iconst 2, 1) := by decide +kernel
theorem dL_law_551 : decode cL_law 551 = .ok (.iadd, 1) := by decide +kernel
theorem dL_law_552 : decode cL_law 552 = .ok (.iaload, 1) := by decide +kernel
theorem dL_law_553 : decode cL_law 553 = .ok (.invokevirtual 76, 3) := by decide +kernel
theorem dL_law_556 : decode cL_law 556 = .ok (.if_icmp .eq 443, 3) := by decide +kernel
theorem dL_law_559 : decode cL_law 559 = .ok (.iconst 0, 1) := by decide +kernel
theorem dL_law_560 : decode cL_law 560 = .ok (.ireturn, 1) := by decide +kernel
theorem dL_law_561 : decode cL_law 561 = .ok (.aload_n 1, 1) := by decide +kernel
theorem dL_law_562 : decode cL_law 562 = .ok (.aload_n 0, 1) := by decide +kernel
theorem dL_law_563 : decode cL_law 563 = .ok (.iload_n 3, 1) := by decide +kernel
theorem dL_law_564 : decode cL_law 564 = .ok (.iconst 1, 1) := by decide +kernel
theorem dL_law_565 : decode cL_law 565 = .ok (.iadd, 1) := by decide +kernel
theorem dL_law_566 : decode cL_law 566 = .ok (.iaload, 1) := by decide +kernel
theorem dL_law_567 : decode cL_law 567 = .ok (.aload_n 0, 1) := by decide +kernel
theorem dL_law_568 : decode cL_law 568 = .ok (.iload_n 3, 1) := by decide +kernel
theorem dL_law_569 : decode cL_law 569 = .ok (.iconst 2, 1) := by decide +kernel
theorem dL_law_570 : decode cL_law 570 = .ok (.iadd, 1) := by decide +kernel
theorem dL_law_571 : decode cL_law 571 = .ok (.iaload, 1) := by decide +kernel
theorem dL_law_572 : decode cL_law 572 = .ok (.aload_n 0, 1) := by decide +kernel
theorem dL_law_573 : decode cL_law 573 = .ok (.iload_n 3, 1) := by decide +kernel
theorem dL_law_574 : decode cL_law 574 = .ok (.iconst 3, 1) := by decide +kernel
theorem dL_law_575 : decode cL_law 575 = .ok (.iadd, 1) := by decide +kernel
theorem dL_law_576 : decode cL_law 576 = .ok (.iaload, 1) := by decide +kernel
theorem dL_law_577 : decode cL_law 577 = .ok (.invokevirtual 77, 3) := by decide +kernel
theorem dL_law_580 : decode cL_law 580 = .ok (.aload_n 2, 1) := by decide +kernel
theorem dL_law_581 : decode cL_law 581 = .ok (.aload_n 0, 1) := by decide +kernel
theorem dL_law_582 : decode cL_law 582 = .ok (.iload_n 3, 1) := by decide +kernel
theorem dL_law_583 : decode cL_law 583 = .ok (.iconst 1, 1) := by decide +kernel
theorem dL_law_584 : decode cL_law 584 = .ok (.iadd, 1) := by decide +kernel
theorem dL_law_585 : decode cL_law 585 = .ok (.iaload, 1) := by decide +kernel
theorem dL_law_586 : decode cL_law 586 = .ok (.aload_n 0, 1) := by decide +kernel
theorem dL_law_587 : decode cL_law 587 = .ok (.iload_n 3, 1) := by decide +kernel
theorem dL_law_588 : decode cL_law 588 = .ok (.iconst 2, 1) := by decide +kernel
theorem dL_law_589 : decode cL_law 589 = .ok (.iadd, 1) := by decide +kernel
theorem dL_law_590 : decode cL_law 590 = .ok (.iaload, 1) := by decide +kernel
theorem dL_law_591 : decode cL_law 591 = .ok (.aload_n 0, 1) := by decide +kernel
theorem dL_law_592 : decode cL_law 592 = .ok (.iload_n 3, 1) := by decide +kernel
theorem dL_law_593 : decode cL_law 593 = .ok (.iconst 3, 1) := by decide +kernel
theorem dL_law_594 : decode cL_law 594 = .ok (.iadd, 1) := by decide +kernel
theorem dL_law_595 : decode cL_law 595 = .ok (.iaload, 1) := by decide +kernel
theorem dL_law_596 : decode cL_law 596 = .ok (.invokevirtual 80, 3) := by decide +kernel
theorem dL_law_599 : decode cL_law 599 = .ok (.if_icmp .eq 400, 3) := by decide +kernel
theorem dL_law_602 : decode cL_law 602 = .ok (.iconst 0, 1) := by decide +kernel
theorem dL_law_603 : decode cL_law 603 = .ok (.ireturn, 1) := by decide +kernel
theorem dL_law_604 : decode cL_law 604 = .ok (.aload_n 1, 1) := by decide +kernel
theorem dL_law_605 : decode cL_law 605 = .ok (.aload_n 0, 1) := by decide +kernel
theorem dL_law_606 : decode cL_law 606 = .ok (.iload_n 3, 1) := by decide +kernel
theorem dL_law_607 : decode cL_law 607 = .ok (.iconst 1, 1) := by decide +kernel
theorem dL_law_608 : decode cL_law 608 = .ok (.iadd, 1) := by decide +kernel
theorem dL_law_609 : decode cL_law 609 = .ok (.iaload, 1) := by decide +kernel
theorem dL_law_610 : decode cL_law 610 = .ok (.aload_n 0, 1) := by decide +kernel
theorem dL_law_611 : decode cL_law 611 = .ok (.iload_n 3, 1) := by decide +kernel
theorem dL_law_612 : decode cL_law 612 = .ok (.iconst 2, 1) := by decide +kernel
theorem dL_law_613 : decode cL_law 613 = .ok (.iadd, 1) := by decide +kernel
theorem dL_law_614 : decode cL_law 614 = .ok (.iaload, 1) := by decide +kernel
theorem dL_law_615 : decode cL_law 615 = .ok (.invokevirtual 81, 3) := by decide +kernel
theorem dL_law_618 : decode cL_law 618 = .ok (.aload_n 2, 1) := by decide +kernel
theorem dL_law_619 : decode cL_law 619 = .ok (.aload_n 0, 1) := by decide +kernel
theorem dL_law_620 : decode cL_law 620 = .ok (.iload_n 3, 1) := by decide +kernel
theorem dL_law_621 : decode cL_law 621 = .ok (.iconst 1, 1) := by decide +kernel
theorem dL_law_622 : decode cL_law 622 = .ok (.iadd, 1) := by decide +kernel
theorem dL_law_623 : decode cL_law 623 = .ok (.iaload, 1) := by decide +kernel
theorem dL_law_624 : decode cL_law 624 = .ok (.aload_n 0, 1) := by decide +kernel
theorem dL_law_625 : decode cL_law 625 = .ok (.iload_n 3, 1) := by decide +kernel
theorem dL_law_626 : decode cL_law 626 = .ok (.iconst 2, 1) := by decide +kernel
theorem dL_law_627 : decode cL_law 627 = .ok (.iadd, 1) := by decide +kernel
theorem dL_law_628 : decode cL_law 628 = .ok (.iaload, 1) := by decide +kernel
theorem dL_law_629 : decode cL_law 629 = .ok (.invokevirtual 84, 3) := by decide +kernel
theorem dL_law_632 : decode cL_law 632 = .ok (.if_icmp .eq 367, 3) := by decide +kernel
theorem dL_law_635 : decode cL_law 635 = .ok (.iconst 0, 1) := by decide +kernel
theorem dL_law_636 : decode cL_law 636 = .ok (.ireturn, 1) := by decide +kernel
theorem dL_law_637 : decode cL_law 637 = .ok (.aload_n 1, 1) := by decide +kernel
theorem dL_law_638 : decode cL_law 638 = .ok (.aload_n 0, 1) := by decide +kernel
theorem dL_law_639 : decode cL_law 639 = .ok (.iload_n 3, 1) := by decide +kernel
theorem dL_law_640 : decode cL_law 640 = .ok (.iconst 1, 1) := by decide +kernel
theorem dL_law_641 : decode cL_law 641 = .ok (.iadd, 1) := by decide +kernel
theorem dL_law_642 : decode cL_law 642 = .ok (.iaload, 1) := by decide +kernel
theorem dL_law_643 : decode cL_law 643 = .ok (.aload_n 0, 1) := by decide +kernel
theorem dL_law_644 : decode cL_law 644 = .ok (.iload_n 3, 1) := by decide +kernel
theorem dL_law_645 : decode cL_law 645 = .ok (.iconst 2, 1) := by decide +kernel
theorem dL_law_646 : decode cL_law 646 = .ok (.iadd, 1) := by decide +kernel
theorem dL_law_647 : decode cL_law 647 = .ok (.iaload, 1) := by decide +kernel
theorem dL_law_648 : decode cL_law 648 = .ok (.aload_n 0, 1) := by decide +kernel
theorem dL_law_649 : decode cL_law 649 = .ok (.iload_n 3, 1) := by decide +kernel
theorem dL_law_650 : decode cL_law 650 = .ok (.iconst 3, 1) := by decide +kernel
theorem dL_law_651 : decode cL_law 651 = .ok (.iadd, 1) := by decide +kernel
theorem dL_law_652 : decode cL_law 652 = .ok (.iaload, 1) := by decide +kernel
theorem dL_law_653 : decode cL_law 653 = .ok (.aload_n 0, 1) := by decide +kernel
theorem dL_law_654 : decode cL_law 654 = .ok (.iload_n 3, 1) := by decide +kernel
theorem dL_law_655 : decode cL_law 655 = .ok (.iconst 4, 1) := by decide +kernel
theorem dL_law_656 : decode cL_law 656 = .ok (.iadd, 1) := by decide +kernel
theorem dL_law_657 : decode cL_law 657 = .ok (.iaload, 1) := by decide +kernel
theorem dL_law_658 : decode cL_law 658 = .ok (.aload_n 0, 1) := by decide +kernel
theorem dL_law_659 : decode cL_law 659 = .ok (.iload_n 3, 1) := by decide +kernel
theorem dL_law_660 : decode cL_law 660 = .ok (.iconst 5, 1) := by decide +kernel
theorem dL_law_661 : decode cL_law 661 = .ok (.iadd, 1) := by decide +kernel
theorem dL_law_662 : decode cL_law 662 = .ok (.iaload, 1) := by decide +kernel
theorem dL_law_663 : decode cL_law 663 = .ok (.invokevirtual 85, 3) := by decide +kernel
theorem dL_law_666 : decode cL_law 666 = .ok (.aload_n 2, 1) := by decide +kernel
theorem dL_law_667 : decode cL_law 667 = .ok (.aload_n 0, 1) := by decide +kernel
theorem dL_law_668 : decode cL_law 668 = .ok (.iload_n 3, 1) := by decide +kernel
theorem dL_law_669 : decode cL_law 669 = .ok (.iconst 1, 1) := by decide +kernel
theorem dL_law_670 : decode cL_law 670 = .ok (.iadd, 1) := by decide +kernel
theorem dL_law_671 : decode cL_law 671 = .ok (.iaload, 1) := by decide +kernel
theorem dL_law_672 : decode cL_law 672 = .ok (.aload_n 0, 1) := by decide +kernel
theorem dL_law_673 : decode cL_law 673 = .ok (.iload_n 3, 1) := by decide +kernel
theorem dL_law_674 : decode cL_law 674 = .ok (.iconst 2, 1) := by decide +kernel
theorem dL_law_675 : decode cL_law 675 = .ok (.iadd, 1) := by decide +kernel
theorem dL_law_676 : decode cL_law 676 = .ok (.iaload, 1) := by decide +kernel
theorem dL_law_677 : decode cL_law 677 = .ok (.aload_n 0, 1) := by decide +kernel
theorem dL_law_678 : decode cL_law 678 = .ok (.iload_n 3, 1) := by decide +kernel
theorem dL_law_679 : decode cL_law 679 = .ok (.iconst 3, 1) := by decide +kernel
theorem dL_law_680 : decode cL_law 680 = .ok (.iadd, 1) := by decide +kernel
theorem dL_law_681 : decode cL_law 681 = .ok (.iaload, 1) := by decide +kernel
theorem dL_law_682 : decode cL_law 682 = .ok (.aload_n 0, 1) := by decide +kernel
theorem dL_law_683 : decode cL_law 683 = .ok (.iload_n 3, 1) := by decide +kernel
theorem dL_law_684 : decode cL_law 684 = .ok (.iconst 4, 1) := by decide +kernel
theorem dL_law_685 : decode cL_law 685 = .ok (.iadd, 1) := by decide +kernel
theorem dL_law_686 : decode cL_law 686 = .ok (.iaload, 1) := by decide +kernel
theorem dL_law_687 : decode cL_law 687 = .ok (.aload_n 0, 1) := by decide +kernel
theorem dL_law_688 : decode cL_law 688 = .ok (.iload_n 3, 1) := by decide +kernel
theorem dL_law_689 : decode cL_law 689 = .ok (.iconst 5, 1) := by decide +kernel
theorem dL_law_690 : decode cL_law 690 = .ok (.iadd, 1) := by decide +kernel
theorem dL_law_691 : decode cL_law 691 = .ok (.iaload, 1) := by decide +kernel
theorem dL_law_692 : decode cL_law 692 = .ok (.invokevirtual 89, 3) := by decide +kernel
theorem dL_law_695 : decode cL_law 695 = .ok (.lcmp, 1) := by decide +kernel
theorem dL_law_696 : decode cL_law 696 = .ok (.ifCond .eq 303, 3) := by decide +kernel
theorem dL_law_699 : decode cL_law 699 = .ok (.iconst 0, 1) := by decide +kernel
theorem dL_law_700 : decode cL_law 700 = .ok (.ireturn, 1) := by decide +kernel
theorem dL_law_701 : decode cL_law 701 = .ok (.aload_n 1, 1) := by decide +kernel
theorem dL_law_702 : decode cL_law 702 = .ok (.aload_n 0, 1) := by decide +kernel
theorem dL_law_703 : decode cL_law 703 = .ok (.iload_n 3, 1) := by decide +kernel
theorem dL_law_704 : decode cL_law 704 = .ok (.iconst 1, 1) := by decide +kernel
theorem dL_law_705 : decode cL_law 705 = .ok (.iadd, 1) := by decide +kernel
theorem dL_law_706 : decode cL_law 706 = .ok (.iaload, 1) := by decide +kernel
theorem dL_law_707 : decode cL_law 707 = .ok (.aload_n 0, 1) := by decide +kernel
theorem dL_law_708 : decode cL_law 708 = .ok (.iload_n 3, 1) := by decide +kernel
theorem dL_law_709 : decode cL_law 709 = .ok (.iconst 2, 1) := by decide +kernel
theorem dL_law_710 : decode cL_law 710 = .ok (.iadd, 1) := by decide +kernel
theorem dL_law_711 : decode cL_law 711 = .ok (.iaload, 1) := by decide +kernel
theorem dL_law_712 : decode cL_law 712 = .ok (.aload_n 0, 1) := by decide +kernel
theorem dL_law_713 : decode cL_law 713 = .ok (.iload_n 3, 1) := by decide +kernel
theorem dL_law_714 : decode cL_law 714 = .ok (.iconst 3, 1) := by decide +kernel
theorem dL_law_715 : decode cL_law 715 = .ok (.iadd, 1) := by decide +kernel
theorem dL_law_716 : decode cL_law 716 = .ok (.iaload, 1) := by decide +kernel
theorem dL_law_717 : decode cL_law 717 = .ok (.aload_n 0, 1) := by decide +kernel
theorem dL_law_718 : decode cL_law 718 = .ok (.iload_n 3, 1) := by decide +kernel
theorem dL_law_719 : decode cL_law 719 = .ok (.iconst 4, 1) := by decide +kernel
theorem dL_law_720 : decode cL_law 720 = .ok (.iadd, 1) := by decide +kernel
theorem dL_law_721 : decode cL_law 721 = .ok (.iaload, 1) := by decide +kernel
theorem dL_law_722 : decode cL_law 722 = .ok (.aload_n 0, 1) := by decide +kernel
theorem dL_law_723 : decode cL_law 723 = .ok (.iload_n 3, 1) := by decide +kernel
theorem dL_law_724 : decode cL_law 724 = .ok (.iconst 5, 1) := by decide +kernel
theorem dL_law_725 : decode cL_law 725 = .ok (.iadd, 1) := by decide +kernel
theorem dL_law_726 : decode cL_law 726 = .ok (.iaload, 1) := by decide +kernel
theorem dL_law_727 : decode cL_law 727 = .ok (.invokevirtual 90, 3) := by decide +kernel
theorem dL_law_730 : decode cL_law 730 = .ok (.aload_n 2, 1) := by decide +kernel
theorem dL_law_731 : decode cL_law 731 = .ok (.aload_n 0, 1) := by decide +kernel
theorem dL_law_732 : decode cL_law 732 = .ok (.iload_n 3, 1) := by decide +kernel
theorem dL_law_733 : decode cL_law 733 = .ok (.iconst 1, 1) := by decide +kernel
theorem dL_law_734 : decode cL_law 734 = .ok (.iadd, 1) := by decide +kernel
theorem dL_law_735 : decode cL_law 735 = .ok (.iaload, 1) := by decide +kernel
theorem dL_law_736 : decode cL_law 736 = .ok (.aload_n 0, 1) := by decide +kernel
theorem dL_law_737 : decode cL_law 737 = .ok (.iload_n 3, 1) := by decide +kernel
theorem dL_law_738 : decode cL_law 738 = .ok (.iconst 2, 1) := by decide +kernel
theorem dL_law_739 : decode cL_law 739 = .ok (.iadd, 1) := by decide +kernel
theorem dL_law_740 : decode cL_law 740 = .ok (.iaload, 1) := by decide +kernel
theorem dL_law_741 : decode cL_law 741 = .ok (.aload_n 0, 1) := by decide +kernel
theorem dL_law_742 : decode cL_law 742 = .ok (.iload_n 3, 1) := by decide +kernel
theorem dL_law_743 : decode cL_law 743 = .ok (.iconst 3, 1) := by decide +kernel
theorem dL_law_744 : decode cL_law 744 = .ok (.iadd, 1) := by decide +kernel
theorem dL_law_745 : decode cL_law 745 = .ok (.iaload, 1) := by decide +kernel
theorem dL_law_746 : decode cL_law 746 = .ok (.aload_n 0, 1) := by decide +kernel
theorem dL_law_747 : decode cL_law 747 = .ok (.iload_n 3, 1) := by decide +kernel
theorem dL_law_748 : decode cL_law 748 = .ok (.iconst 4, 1) := by decide +kernel
theorem dL_law_749 : decode cL_law 749 = .ok (.iadd, 1) := by decide +kernel
theorem dL_law_750 : decode cL_law 750 = .ok (.iaload, 1) := by decide +kernel
theorem dL_law_751 : decode cL_law 751 = .ok (.aload_n 0, 1) := by decide +kernel
theorem dL_law_752 : decode cL_law 752 = .ok (.iload_n 3, 1) := by decide +kernel
theorem dL_law_753 : decode cL_law 753 = .ok (.iconst 5, 1) := by decide +kernel
theorem dL_law_754 : decode cL_law 754 = .ok (.iadd, 1) := by decide +kernel
theorem dL_law_755 : decode cL_law 755 = .ok (.iaload, 1) := by decide +kernel
theorem dL_law_756 : decode cL_law 756 = .ok (.invokevirtual 93, 3) := by decide +kernel
theorem dL_law_759 : decode cL_law 759 = .ok (.lcmp, 1) := by decide +kernel
theorem dL_law_760 : decode cL_law 760 = .ok (.ifCond .eq 239, 3) := by decide +kernel
theorem dL_law_763 : decode cL_law 763 = .ok (.iconst 0, 1) := by decide +kernel
theorem dL_law_764 : decode cL_law 764 = .ok (.ireturn, 1) := by decide +kernel
theorem dL_law_765 : decode cL_law 765 = .ok (.aload_n 1, 1) := by decide +kernel
theorem dL_law_766 : decode cL_law 766 = .ok (.aload_n 0, 1) := by decide +kernel
theorem dL_law_767 : decode cL_law 767 = .ok (.iload_n 3, 1) := by decide +kernel
theorem dL_law_768 : decode cL_law 768 = .ok (.iconst 1, 1) := by decide +kernel
theorem dL_law_769 : decode cL_law 769 = .ok (.iadd, 1) := by decide +kernel
theorem dL_law_770 : decode cL_law 770 = .ok (.iaload, 1) := by decide +kernel
theorem dL_law_771 : decode cL_law 771 = .ok (.aload_n 0, 1) := by decide +kernel
theorem dL_law_772 : decode cL_law 772 = .ok (.iload_n 3, 1) := by decide +kernel
theorem dL_law_773 : decode cL_law 773 = .ok (.iconst 2, 1) := by decide +kernel
theorem dL_law_774 : decode cL_law 774 = .ok (.iadd, 1) := by decide +kernel
theorem dL_law_775 : decode cL_law 775 = .ok (.iaload, 1) := by decide +kernel
theorem dL_law_776 : decode cL_law 776 = .ok (.aload_n 0, 1) := by decide +kernel
theorem dL_law_777 : decode cL_law 777 = .ok (.iload_n 3, 1) := by decide +kernel
theorem dL_law_778 : decode cL_law 778 = .ok (.iconst 3, 1) := by decide +kernel
theorem dL_law_779 : decode cL_law 779 = .ok (.iadd, 1) := by decide +kernel
theorem dL_law_780 : decode cL_law 780 = .ok (.iaload, 1) := by decide +kernel
theorem dL_law_781 : decode cL_law 781 = .ok (.invokevirtual 94, 3) := by decide +kernel
theorem dL_law_784 : decode cL_law 784 = .ok (.aload_n 2, 1) := by decide +kernel
theorem dL_law_785 : decode cL_law 785 = .ok (.aload_n 0, 1) := by decide +kernel
theorem dL_law_786 : decode cL_law 786 = .ok (.iload_n 3, 1) := by decide +kernel
theorem dL_law_787 : decode cL_law 787 = .ok (.iconst 1, 1) := by decide +kernel
theorem dL_law_788 : decode cL_law 788 = .ok (.iadd, 1) := by decide +kernel
theorem dL_law_789 : decode cL_law 789 = .ok (.iaload, 1) := by decide +kernel
theorem dL_law_790 : decode cL_law 790 = .ok (.aload_n 0, 1) := by decide +kernel
theorem dL_law_791 : decode cL_law 791 = .ok (.iload_n 3, 1) := by decide +kernel
theorem dL_law_792 : decode cL_law 792 = .ok (.iconst 2, 1) := by decide +kernel
theorem dL_law_793 : decode cL_law 793 = .ok (.iadd, 1) := by decide +kernel
theorem dL_law_794 : decode cL_law 794 = .ok (.iaload, 1) := by decide +kernel
theorem dL_law_795 : decode cL_law 795 = .ok (.aload_n 0, 1) := by decide +kernel
theorem dL_law_796 : decode cL_law 796 = .ok (.iload_n 3, 1) := by decide +kernel
theorem dL_law_797 : decode cL_law 797 = .ok (.iconst 3, 1) := by decide +kernel
theorem dL_law_798 : decode cL_law 798 = .ok (.iadd, 1) := by decide +kernel
theorem dL_law_799 : decode cL_law 799 = .ok (.iaload, 1) := by decide +kernel
theorem dL_law_800 : decode cL_law 800 = .ok (.invokevirtual 97, 3) := by decide +kernel
theorem dL_law_803 : decode cL_law 803 = .ok (.if_icmp .eq 196, 3) := by decide +kernel
theorem dL_law_806 : decode cL_law 806 = .ok (.iconst 0, 1) := by decide +kernel
theorem dL_law_807 : decode cL_law 807 = .ok (.ireturn, 1) := by decide +kernel
theorem dL_law_808 : decode cL_law 808 = .ok (.aload_n 1, 1) := by decide +kernel
theorem dL_law_809 : decode cL_law 809 = .ok (.invokevirtual 98, 3) := by decide +kernel
theorem dL_law_812 : decode cL_law 812 = .ok (.aload_n 2, 1) := by decide +kernel
theorem dL_law_813 : decode cL_law 813 = .ok (.invokevirtual 101, 3) := by decide +kernel
theorem dL_law_816 : decode cL_law 816 = .ok (.if_icmp .eq 183, 3) := by decide +kernel
theorem dL_law_819 : decode cL_law 819 = .ok (.iconst 0, 1) := by decide +kernel
theorem dL_law_820 : decode cL_law 820 = .ok (.ireturn, 1) := by decide +kernel
theorem dL_law_821 : decode cL_law 821 = .ok (.aload_n 1, 1) := by decide +kernel
theorem dL_law_822 : decode cL_law 822 = .ok (.aload_n 0, 1) := by decide +kernel
theorem dL_law_823 : decode cL_law 823 = .ok (.iload_n 3, 1) := by decide +kernel
theorem dL_law_824 : decode cL_law 824 = .ok (.iconst 1, 1) := by decide +kernel
theorem dL_law_825 : decode cL_law 825 = .ok (.iadd, 1) := by decide +kernel
theorem dL_law_826 : decode cL_law 826 = .ok (.iaload, 1) := by decide +kernel
theorem dL_law_827 : decode cL_law 827 = .ok (.aload_n 0, 1) := by decide +kernel
theorem dL_law_828 : decode cL_law 828 = .ok (.iload_n 3, 1) := by decide +kernel
theorem dL_law_829 : decode cL_law 829 = .ok (.iconst 2, 1) := by decide +kernel
theorem dL_law_830 : decode cL_law 830 = .ok (.iadd, 1) := by decide +kernel
theorem dL_law_831 : decode cL_law 831 = .ok (.iaload, 1) := by decide +kernel
theorem dL_law_832 : decode cL_law 832 = .ok (.invokevirtual 102, 3) := by decide +kernel
theorem dL_law_835 : decode cL_law 835 = .ok (.aload_n 2, 1) := by decide +kernel
theorem dL_law_836 : decode cL_law 836 = .ok (.aload_n 0, 1) := by decide +kernel
theorem dL_law_837 : decode cL_law 837 = .ok (.iload_n 3, 1) := by decide +kernel
theorem dL_law_838 : decode cL_law 838 = .ok (.iconst 1, 1) := by decide +kernel
theorem dL_law_839 : decode cL_law 839 = .ok (.iadd, 1) := by decide +kernel
theorem dL_law_840 : decode cL_law 840 = .ok (.iaload, 1) := by decide +kernel
theorem dL_law_841 : decode cL_law 841 = .ok (.aload_n 0, 1) := by decide +kernel
theorem dL_law_842 : decode cL_law 842 = .ok (.iload_n 3, 1) := by decide +kernel
theorem dL_law_843 : decode cL_law 843 = .ok (.iconst 2, 1) := by decide +kernel
theorem dL_law_844 : decode cL_law 844 = .ok (.iadd, 1) := by decide +kernel
theorem dL_law_845 : decode cL_law 845 = .ok (.iaload, 1) := by decide +kernel
theorem dL_law_846 : decode cL_law 846 = .ok (.invokevirtual 105, 3) := by decide +kernel
theorem dL_law_849 : decode cL_law 849 = .ok (.if_icmp .eq 150, 3) := by decide +kernel
theorem dL_law_852 : decode cL_law 852 = .ok (.iconst 0, 1) := by decide +kernel
theorem dL_law_853 : decode cL_law 853 = .ok (.ireturn, 1) := by decide +kernel
theorem dL_law_854 : decode cL_law 854 = .ok (.aload_n 1, 1) := by decide +kernel
theorem dL_law_855 : decode cL_law 855 = .ok (.aload_n 0, 1) := by decide +kernel
theorem dL_law_856 : decode cL_law 856 = .ok (.iload_n 3, 1) := by decide +kernel
theorem dL_law_857 : decode cL_law 857 = .ok (.iconst 1, 1) := by decide +kernel
theorem dL_law_858 : decode cL_law 858 = .ok (.iadd, 1) := by decide +kernel
theorem dL_law_859 : decode cL_law 859 = .ok (.iaload, 1) := by decide +kernel
theorem dL_law_860 : decode cL_law 860 = .ok (.aload_n 0, 1) := by decide +kernel
theorem dL_law_861 : decode cL_law 861 = .ok (.iload_n 3, 1) := by decide +kernel
theorem dL_law_862 : decode cL_law 862 = .ok (.iconst 2, 1) := by decide +kernel
theorem dL_law_863 : decode cL_law 863 = .ok (.iadd, 1) := by decide +kernel
theorem dL_law_864 : decode cL_law 864 = .ok (.iaload, 1) := by decide +kernel
theorem dL_law_865 : decode cL_law 865 = .ok (.invokevirtual 106, 3) := by decide +kernel
theorem dL_law_868 : decode cL_law 868 = .ok (.aload_n 2, 1) := by decide +kernel
theorem dL_law_869 : decode cL_law 869 = .ok (.aload_n 0, 1) := by decide +kernel
theorem dL_law_870 : decode cL_law 870 = .ok (.iload_n 3, 1) := by decide +kernel
theorem dL_law_871 : decode cL_law 871 = .ok (.iconst 1, 1) := by decide +kernel
theorem dL_law_872 : decode cL_law 872 = .ok (.iadd, 1) := by decide +kernel
theorem dL_law_873 : decode cL_law 873 = .ok (.iaload, 1) := by decide +kernel
theorem dL_law_874 : decode cL_law 874 = .ok (.aload_n 0, 1) := by decide +kernel
theorem dL_law_875 : decode cL_law 875 = .ok (.iload_n 3, 1) := by decide +kernel
theorem dL_law_876 : decode cL_law 876 = .ok (.iconst 2, 1) := by decide +kernel
theorem dL_law_877 : decode cL_law 877 = .ok (.iadd, 1) := by decide +kernel
theorem dL_law_878 : decode cL_law 878 = .ok (.iaload, 1) := by decide +kernel
theorem dL_law_879 : decode cL_law 879 = .ok (.invokevirtual 109, 3) := by decide +kernel
theorem dL_law_882 : decode cL_law 882 = .ok (.if_icmp .eq 117, 3) := by decide +kernel
theorem dL_law_885 : decode cL_law 885 = .ok (.iconst 0, 1) := by decide +kernel
theorem dL_law_886 : decode cL_law 886 = .ok (.ireturn, 1) := by decide +kernel
theorem dL_law_887 : decode cL_law 887 = .ok (.aload_n 1, 1) := by decide +kernel
theorem dL_law_888 : decode cL_law 888 = .ok (.aload_n 0, 1) := by decide +kernel
theorem dL_law_889 : decode cL_law 889 = .ok (.iload_n 3, 1) := by decide +kernel
theorem dL_law_890 : decode cL_law 890 = .ok (.iconst 1, 1) := by decide +kernel
theorem dL_law_891 : decode cL_law 891 = .ok (.iadd, 1) := by decide +kernel
theorem dL_law_892 : decode cL_law 892 = .ok (.iaload, 1) := by decide +kernel
theorem dL_law_893 : decode cL_law 893 = .ok (.aload_n 0, 1) := by decide +kernel
theorem dL_law_894 : decode cL_law 894 = .ok (.iload_n 3, 1) := by decide +kernel
theorem dL_law_895 : decode cL_law 895 = .ok (.iconst 2, 1) := by decide +kernel
theorem dL_law_896 : decode cL_law 896 = .ok (.iadd, 1) := by decide +kernel
theorem dL_law_897 : decode cL_law 897 = .ok (.iaload, 1) := by decide +kernel
theorem dL_law_898 : decode cL_law 898 = .ok (.aload_n 0, 1) := by decide +kernel
theorem dL_law_899 : decode cL_law 899 = .ok (.iload_n 3, 1) := by decide +kernel
theorem dL_law_900 : decode cL_law 900 = .ok (.iconst 3, 1) := by decide +kernel
theorem dL_law_901 : decode cL_law 901 = .ok (.iadd, 1) := by decide +kernel
theorem dL_law_902 : decode cL_law 902 = .ok (.iaload, 1) := by decide +kernel
theorem dL_law_903 : decode cL_law 903 = .ok (.invokevirtual 110, 3) := by decide +kernel
theorem dL_law_906 : decode cL_law 906 = .ok (.aload_n 2, 1) := by decide +kernel
theorem dL_law_907 : decode cL_law 907 = .ok (.aload_n 0, 1) := by decide +kernel
theorem dL_law_908 : decode cL_law 908 = .ok (.iload_n 3, 1) := by decide +kernel
theorem dL_law_909 : decode cL_law 909 = .ok (.iconst 1, 1) := by decide +kernel
theorem dL_law_910 : decode cL_law 910 = .ok (.iadd, 1) := by decide +kernel
theorem dL_law_911 : decode cL_law 911 = .ok (.iaload, 1) := by decide +kernel
theorem dL_law_912 : decode cL_law 912 = .ok (.aload_n 0, 1) := by decide +kernel
theorem dL_law_913 : decode cL_law 913 = .ok (.iload_n 3, 1) := by decide +kernel
theorem dL_law_914 : decode cL_law 914 = .ok (.iconst 2, 1) := by decide +kernel
theorem dL_law_915 : decode cL_law 915 = .ok (.iadd, 1) := by decide +kernel
theorem dL_law_916 : decode cL_law 916 = .ok (.iaload, 1) := by decide +kernel
theorem dL_law_917 : decode cL_law 917 = .ok (.aload_n 0, 1) := by decide +kernel
theorem dL_law_918 : decode cL_law 918 = .ok (.iload_n 3, 1) := by decide +kernel
theorem dL_law_919 : decode cL_law 919 = .ok (.iconst 3, 1) := by decide +kernel
theorem dL_law_920 : decode cL_law 920 = .ok (.iadd, 1) := by decide +kernel
theorem dL_law_921 : decode cL_law 921 = .ok (.iaload, 1) := by decide +kernel
theorem dL_law_922 : decode cL_law 922 = .ok (.invokevirtual 113, 3) := by decide +kernel
theorem dL_law_925 : decode cL_law 925 = .ok (.if_icmp .eq 74, 3) := by decide +kernel
theorem dL_law_928 : decode cL_law 928 = .ok (.iconst 0, 1) := by decide +kernel
theorem dL_law_929 : decode cL_law 929 = .ok (.ireturn, 1) := by decide +kernel
theorem dL_law_930 : decode cL_law 930 = .ok (.aload_n 1, 1) := by decide +kernel
theorem dL_law_931 : decode cL_law 931 = .ok (.aload_n 0, 1) := by decide +kernel
theorem dL_law_932 : decode cL_law 932 = .ok (.iload_n 3, 1) := by decide +kernel
theorem dL_law_933 : decode cL_law 933 = .ok (.iconst 1, 1) := by decide +kernel
theorem dL_law_934 : decode cL_law 934 = .ok (.iadd, 1) := by decide +kernel
theorem dL_law_935 : decode cL_law 935 = .ok (.iaload, 1) := by decide +kernel
theorem dL_law_936 : decode cL_law 936 = .ok (.invokevirtual 114, 3) := by decide +kernel
theorem dL_law_939 : decode cL_law 939 = .ok (.aload_n 2, 1) := by decide +kernel
theorem dL_law_940 : decode cL_law 940 = .ok (.aload_n 0, 1) := by decide +kernel
theorem dL_law_941 : decode cL_law 941 = .ok (.iload_n 3, 1) := by decide +kernel
theorem dL_law_942 : decode cL_law 942 = .ok (.iconst 1, 1) := by decide +kernel
theorem dL_law_943 : decode cL_law 943 = .ok (.iadd, 1) := by decide +kernel
theorem dL_law_944 : decode cL_law 944 = .ok (.iaload, 1) := by decide +kernel
theorem dL_law_945 : decode cL_law 945 = .ok (.invokevirtual 117, 3) := by decide +kernel
theorem dL_law_948 : decode cL_law 948 = .ok (.if_icmp .eq 51, 3) := by decide +kernel
theorem dL_law_951 : decode cL_law 951 = .ok (.iconst 0, 1) := by decide +kernel
theorem dL_law_952 : decode cL_law 952 = .ok (.ireturn, 1) := by decide +kernel
theorem dL_law_953 : decode cL_law 953 = .ok (.aload_n 1, 1) := by decide +kernel
theorem dL_law_954 : decode cL_law 954 = .ok (.aload_n 0, 1) := by decide +kernel
theorem dL_law_955 : decode cL_law 955 = .ok (.iload_n 3, 1) := by decide +kernel
theorem dL_law_956 : decode cL_law 956 = .ok (.iconst 1, 1) := by decide +kernel
theorem dL_law_957 : decode cL_law 957 = .ok (.iadd, 1) := by decide +kernel
theorem dL_law_958 : decode cL_law 958 = .ok (.iaload, 1) := by decide +kernel
theorem dL_law_959 : decode cL_law 959 = .ok (.invokevirtual 118, 3) := by decide +kernel
theorem dL_law_962 : decode cL_law 962 = .ok (.aload_n 2, 1) := by decide +kernel
theorem dL_law_963 : decode cL_law 963 = .ok (.aload_n 0, 1) := by decide +kernel
theorem dL_law_964 : decode cL_law 964 = .ok (.iload_n 3, 1) := by decide +kernel
theorem dL_law_965 : decode cL_law 965 = .ok (.iconst 1, 1) := by decide +kernel
theorem dL_law_966 : decode cL_law 966 = .ok (.iadd, 1) := by decide +kernel
theorem dL_law_967 : decode cL_law 967 = .ok (.iaload, 1) := by decide +kernel
theorem dL_law_968 : decode cL_law 968 = .ok (.invokevirtual 121, 3) := by decide +kernel
theorem dL_law_971 : decode cL_law 971 = .ok (.if_icmp .eq 28, 3) := by decide +kernel
theorem dL_law_974 : decode cL_law 974 = .ok (.iconst 0, 1) := by decide +kernel
theorem dL_law_975 : decode cL_law 975 = .ok (.ireturn, 1) := by decide +kernel
theorem dL_law_976 : decode cL_law 976 = .ok (.aload_n 1, 1) := by decide +kernel
theorem dL_law_977 : decode cL_law 977 = .ok (.aload_n 0, 1) := by decide +kernel
theorem dL_law_978 : decode cL_law 978 = .ok (.iload_n 3, 1) := by decide +kernel
theorem dL_law_979 : decode cL_law 979 = .ok (.iconst 1, 1) := by decide +kernel
theorem dL_law_980 : decode cL_law 980 = .ok (.iadd, 1) := by decide +kernel
theorem dL_law_981 : decode cL_law 981 = .ok (.iaload, 1) := by decide +kernel
theorem dL_law_982 : decode cL_law 982 = .ok (.invokevirtual 122, 3) := by decide +kernel
theorem dL_law_985 : decode cL_law 985 = .ok (.aload_n 2, 1) := by decide +kernel
theorem dL_law_986 : decode cL_law 986 = .ok (.aload_n 0, 1) := by decide +kernel
theorem dL_law_987 : decode cL_law 987 = .ok (.iload_n 3, 1) := by decide +kernel
theorem dL_law_988 : decode cL_law 988 = .ok (.iconst 1, 1) := by decide +kernel
theorem dL_law_989 : decode cL_law 989 = .ok (.iadd, 1) := by decide +kernel
theorem dL_law_990 : decode cL_law 990 = .ok (.iaload, 1) := by decide +kernel
theorem dL_law_991 : decode cL_law 991 = .ok (.invokevirtual 125, 3) := by decide +kernel
theorem dL_law_994 : decode cL_law 994 = .ok (.if_icmp .eq 5, 3) := by decide +kernel
theorem dL_law_997 : decode cL_law 997 = .ok (.iconst 0, 1) := by decide +kernel
theorem dL_law_998 : decode cL_law 998 = .ok (.ireturn, 1) := by decide +kernel
theorem dL_law_999 : decode cL_law 999 = .ok (.iinc 3 6, 3) := by decide +kernel
theorem dL_law_1002 : decode cL_law 1002 = .ok (.goto (-984), 3) := by decide +kernel
theorem dL_law_1005 : decode cL_law 1005 = .ok (.iconst 1, 1) := by decide +kernel
theorem dL_law_1006 : decode cL_law 1006 = .ok (.ireturn, 1) := by decide +kernel
end
section
theorem jc_0 : jCs[0]? = some (jo 7 [some 1, some 13, some 18, some 20, some 33, some 36, some 40]) := rfl
theorem jc_1 : jCs[1]? = some (jo 2 [some 2, some 3, some 4, some 5, some 6, none, none, none, none]) := rfl
theorem jc_2 : jCs[2]? = some (ji 0 6) := rfl
theorem jc_3 : jCs[3]? = some (ji 0 6) := rfl
theorem jc_4 : jCs[4]? = some (jr 3 [7, 8, 9, 10, 11, 12]) := rfl
theorem jc_5 : jCs[5]? = some (ji 0 8) := rfl
theorem jc_6 : jCs[6]? = some (ji 0 8) := rfl
theorem jc_7 : jCs[7]? = some (ji 0 6) := rfl
theorem jc_8 : jCs[8]? = some (ji 0 6) := rfl
theorem jc_9 : jCs[9]? = some (ji 0 6) := rfl
theorem jc_10 : jCs[10]? = some (ji 0 6) := rfl
theorem jc_11 : jCs[11]? = some (ji 0 6) := rfl
theorem jc_12 : jCs[12]? = some (ji 0 6) := rfl
theorem jc_13 : jCs[13]? = some (jo 4 [some 14, some 15, some 16, some 17, none]) := rfl
theorem jc_14 : jCs[14]? = some (ji 0 8) := rfl
theorem jc_15 : jCs[15]? = some (ji 0 8) := rfl
theorem jc_16 : jCs[16]? = some (ji 0 8) := rfl
theorem jc_17 : jCs[17]? = some (ji 0 8) := rfl
theorem jc_18 : jCs[18]? = some (jo 1 [some 19, none]) := rfl
theorem jc_19 : jCs[19]? = some (ji 0 60) := rfl
theorem jc_20 : jCs[20]? = some (jo 5 [some 21, none, none, none, none, none, none, none, none]) := rfl
theorem jc_21 : jCs[21]? = some (jo 2 [some 22, some 23, some 24, some 25, some 26, none, none, none, none]) := rfl
theorem jc_22 : jCs[22]? = some (ji 0 6) := rfl
theorem jc_23 : jCs[23]? = some (ji 0 6) := rfl
theorem jc_24 : jCs[24]? = some (jr 3 [27, 28, 29, 30, 31, 32]) := rfl
theorem jc_25 : jCs[25]? = some (ji 0 8) := rfl
theorem jc_26 : jCs[26]? = some (ji 0 8) := rfl
theorem jc_27 : jCs[27]? = some (ji 0 6) := rfl
theorem jc_28 : jCs[28]? = some (ji 0 6) := rfl
theorem jc_29 : jCs[29]? = some (ji 0 6) := rfl
theorem jc_30 : jCs[30]? = some (ji 0 6) := rfl
theorem jc_31 : jCs[31]? = some (ji 0 6) := rfl
theorem jc_32 : jCs[32]? = some (ji 0 6) := rfl
theorem jc_33 : jCs[33]? = some (jo 3 [some 34, some 35]) := rfl
theorem jc_34 : jCs[34]? = some (ji 0 6) := rfl
theorem jc_35 : jCs[35]? = some (ji 0 64) := rfl
theorem jc_36 : jCs[36]? = some (jo 6 [some 37]) := rfl
theorem jc_37 : jCs[37]? = some (jr 4 [38, 39]) := rfl
theorem jc_38 : jCs[38]? = some (jj 69) := rfl
theorem jc_39 : jCs[39]? = some (jj 69) := rfl
theorem jc_40 : jCs[40]? = some (jr 5 [41, 59]) := rfl
theorem jc_41 : jCs[41]? = some (jo 0 [some 42, some 54, none]) := rfl
theorem jc_42 : jCs[42]? = some (jo 2 [some 43, some 44, some 45, some 46, some 47, none, none, none, none]) := rfl
theorem jc_43 : jCs[43]? = some (ji 0 6) := rfl
theorem jc_44 : jCs[44]? = some (ji 0 6) := rfl
theorem jc_45 : jCs[45]? = some (jr 3 [48, 49, 50, 51, 52, 53]) := rfl
theorem jc_46 : jCs[46]? = some (ji 0 8) := rfl
theorem jc_47 : jCs[47]? = some (ji 0 8) := rfl
theorem jc_48 : jCs[48]? = some (ji 0 6) := rfl
theorem jc_49 : jCs[49]? = some (ji 0 6) := rfl
theorem jc_50 : jCs[50]? = some (ji 0 6) := rfl
theorem jc_51 : jCs[51]? = some (ji 0 6) := rfl
theorem jc_52 : jCs[52]? = some (ji 0 6) := rfl
theorem jc_53 : jCs[53]? = some (ji 0 6) := rfl
theorem jc_54 : jCs[54]? = some (jo 4 [some 55, some 56, some 57, some 58, none]) := rfl
theorem jc_55 : jCs[55]? = some (ji 0 8) := rfl
theorem jc_56 : jCs[56]? = some (ji 0 8) := rfl
theorem jc_57 : jCs[57]? = some (ji 0 8) := rfl
theorem jc_58 : jCs[58]? = some (ji 0 8) := rfl
theorem jc_59 : jCs[59]? = some (jo 0 [some 60, some 72, none]) := rfl
theorem jc_60 : jCs[60]? = some (jo 2 [some 61, some 62, some 63, some 64, some 65, none, none, none, none]) := rfl
theorem jc_61 : jCs[61]? = some (ji 0 6) := rfl
theorem jc_62 : jCs[62]? = some (ji 0 6) := rfl
theorem jc_63 : jCs[63]? = some (jr 3 [66, 67, 68, 69, 70, 71]) := rfl
theorem jc_64 : jCs[64]? = some (ji 0 8) := rfl
theorem jc_65 : jCs[65]? = some (ji 0 8) := rfl
theorem jc_66 : jCs[66]? = some (ji 0 6) := rfl
theorem jc_67 : jCs[67]? = some (ji 0 6) := rfl
theorem jc_68 : jCs[68]? = some (ji 0 6) := rfl
theorem jc_69 : jCs[69]? = some (ji 0 6) := rfl
theorem jc_70 : jCs[70]? = some (ji 0 6) := rfl
theorem jc_71 : jCs[71]? = some (ji 0 6) := rfl
theorem jc_72 : jCs[72]? = some (jo 4 [some 73, some 74, some 75, some 76, none]) := rfl
theorem jc_73 : jCs[73]? = some (ji 0 8) := rfl
theorem jc_74 : jCs[74]? = some (ji 0 8) := rfl
theorem jc_75 : jCs[75]? = some (ji 0 8) := rfl
theorem jc_76 : jCs[76]? = some (ji 0 8) := rfl
theorem jc_77 : jCs[77]? = some (jo 8 [some 78, some 79, some 80, some 81, some 82, none, none, none, none, some 83, some 84, some 85, none, some 86, none, some 87, some 88, some 89, none, some 90, none, none, none, some 91, some 92, some 93, some 94, some 95, some 96, some 97, some 98, some 99, none, none]) := rfl
theorem jc_78 : jCs[78]? = some (ji 0 6) := rfl
theorem jc_79 : jCs[79]? = some (ji 0 6) := rfl
theorem jc_80 : jCs[80]? = some (ji 0 36) := rfl
theorem jc_81 : jCs[81]? = some (ji 0 8) := rfl
theorem jc_82 : jCs[82]? = some (ji 0 8) := rfl
theorem jc_83 : jCs[83]? = some (ji 0 8) := rfl
theorem jc_84 : jCs[84]? = some (ji 0 8) := rfl
theorem jc_85 : jCs[85]? = some (ji 0 8) := rfl
theorem jc_86 : jCs[86]? = some (ji 0 60) := rfl
theorem jc_87 : jCs[87]? = some (ji 0 60) := rfl
theorem jc_88 : jCs[88]? = some (ji 0 60) := rfl
theorem jc_89 : jCs[89]? = some (ji 0 60) := rfl
theorem jc_90 : jCs[90]? = some (ji 0 60) := rfl
theorem jc_91 : jCs[91]? = some (ji 0 60) := rfl
theorem jc_92 : jCs[92]? = some (ji 0 6) := rfl
theorem jc_93 : jCs[93]? = some (ji 0 64) := rfl
theorem jc_94 : jCs[94]? = some (ji 0 9) := rfl
theorem jc_95 : jCs[95]? = some (jj 70) := rfl
theorem jc_96 : jCs[96]? = some (jj 70) := rfl
theorem jc_97 : jCs[97]? = some (jj 31) := rfl
theorem jc_98 : jCs[98]? = some (ji 0 200) := rfl
theorem jc_99 : jCs[99]? = some (ji 2 2) := rfl
/-- a Realm stands at q -/
def jRl (q : Nat) : Prop := jCs[q]? = some (jo 2 [some (q + 1), some (q + 2), some (q + 3), some (q + 4), some (q + 5), none, none, none, none]) ∧ jCs[q + 1]? = some (ji 0 6) ∧ jCs[q + 2]? = some (ji 0 6) ∧ jCs[q + 3]? = some (jr 3 [q + 6, q + 7, q + 8, q + 9, q + 10, q + 11]) ∧ jCs[q + 4]? = some (ji 0 8) ∧ jCs[q + 5]? = some (ji 0 8) ∧ ∀ i : Nat, i < 6 → jCs[q + 6 + i]? = some (ji 0 6)
theorem jRl.o {q : Nat} (h : jRl q) : jCs[q]? = some (jo 2 [some (q + 1), some (q + 2), some (q + 3), some (q + 4), some (q + 5), none, none, none, none]) := h.1
theorem jRl.c1 {q : Nat} (h : jRl q) : jCs[q + 1]? = some (ji 0 6) := h.2.1
theorem jRl.c2 {q : Nat} (h : jRl q) : jCs[q + 2]? = some (ji 0 6) := h.2.2.1
theorem jRl.c3 {q : Nat} (h : jRl q) : jCs[q + 3]? = some (jr 3 [q + 6, q + 7, q + 8, q + 9, q + 10, q + 11]) := h.2.2.2.1
theorem jRl.c4 {q : Nat} (h : jRl q) : jCs[q + 4]? = some (ji 0 8) := h.2.2.2.2.1
theorem jRl.c5 {q : Nat} (h : jRl q) : jCs[q + 5]? = some (ji 0 8) := h.2.2.2.2.2.1
theorem jRl.row {q i : Nat} (h : jRl q) (hi : i < 6) : jCs[q + 6 + i]? = some (ji 0 6) := h.2.2.2.2.2.2 i hi
theorem jRl.at {q i : Nat} (_ : jRl q) (hi : i < 6) : ([q + 6, q + 7, q + 8, q + 9, q + 10, q + 11] : List Nat)[i]? = some (q + 6 + i) := by
  rcases (show i = 0 ∨ i = 1 ∨ i = 2 ∨ i = 3 ∨ i = 4 ∨ i = 5 by omega) with rfl | rfl | rfl | rfl | rfl | rfl <;> rfl
theorem jRl_1 : jRl 1 := ⟨jc_1, jc_2, jc_3, jc_4, jc_5, jc_6, fun i hi => by
  rcases (show i = 0 ∨ i = 1 ∨ i = 2 ∨ i = 3 ∨ i = 4 ∨ i = 5 by omega) with rfl | rfl | rfl | rfl | rfl | rfl
  · exact jc_7
  · exact jc_8
  · exact jc_9
  · exact jc_10
  · exact jc_11
  · exact jc_12⟩
theorem jRl_21 : jRl 21 := ⟨jc_21, jc_22, jc_23, jc_24, jc_25, jc_26, fun i hi => by
  rcases (show i = 0 ∨ i = 1 ∨ i = 2 ∨ i = 3 ∨ i = 4 ∨ i = 5 by omega) with rfl | rfl | rfl | rfl | rfl | rfl
  · exact jc_27
  · exact jc_28
  · exact jc_29
  · exact jc_30
  · exact jc_31
  · exact jc_32⟩
theorem jRl_42 : jRl 42 := ⟨jc_42, jc_43, jc_44, jc_45, jc_46, jc_47, fun i hi => by
  rcases (show i = 0 ∨ i = 1 ∨ i = 2 ∨ i = 3 ∨ i = 4 ∨ i = 5 by omega) with rfl | rfl | rfl | rfl | rfl | rfl
  · exact jc_48
  · exact jc_49
  · exact jc_50
  · exact jc_51
  · exact jc_52
  · exact jc_53⟩
theorem jRl_60 : jRl 60 := ⟨jc_60, jc_61, jc_62, jc_63, jc_64, jc_65, fun i hi => by
  rcases (show i = 0 ∨ i = 1 ∨ i = 2 ∨ i = 3 ∨ i = 4 ∨ i = 5 by omega) with rfl | rfl | rfl | rfl | rfl | rfl
  · exact jc_66
  · exact jc_67
  · exact jc_68
  · exact jc_69
  · exact jc_70
  · exact jc_71⟩
/-- Sights stand at q -/
def jSg (q : Nat) : Prop := jCs[q]? = some (jo 4 [some (q + 1), some (q + 2), some (q + 3), some (q + 4), none]) ∧ jCs[q + 1]? = some (ji 0 8) ∧ jCs[q + 2]? = some (ji 0 8) ∧ jCs[q + 3]? = some (ji 0 8) ∧ jCs[q + 4]? = some (ji 0 8)
theorem jSg.o {q : Nat} (h : jSg q) : jCs[q]? = some (jo 4 [some (q + 1), some (q + 2), some (q + 3), some (q + 4), none]) := h.1
theorem jSg.c1 {q : Nat} (h : jSg q) : jCs[q + 1]? = some (ji 0 8) := h.2.1
theorem jSg.c2 {q : Nat} (h : jSg q) : jCs[q + 2]? = some (ji 0 8) := h.2.2.1
theorem jSg.c3 {q : Nat} (h : jSg q) : jCs[q + 3]? = some (ji 0 8) := h.2.2.2.1
theorem jSg.c4 {q : Nat} (h : jSg q) : jCs[q + 4]? = some (ji 0 8) := h.2.2.2.2
theorem jSg_13 : jSg 13 := ⟨jc_13, jc_14, jc_15, jc_16, jc_17⟩
theorem jSg_54 : jSg 54 := ⟨jc_54, jc_55, jc_56, jc_57, jc_58⟩
theorem jSg_72 : jSg 72 := ⟨jc_72, jc_73, jc_74, jc_75, jc_76⟩
section JN
variable {l : Launch} {D : va_G} {a : Nat → Nat} {g : Nat → ClassId} {G : jG} {own : String} {cc : ByteArray} {nL fr lo : Nat} {M : jM} {L : jL} {pc : Nat} {loc loc' : List (Nat × Value)} {rest : List Value}
theorem J_cmpN_eq (hX : jX D a g G own cc nL fr lo) {x y : Int32} {off : Int} (tgt i j : Nat) (hd : decode cc pc = .ok (.if_icmp .eq off, 3)) (ht : (pc : Int) + off = (tgt : Int)) (hx : x = nI i) (hy : y = nI j) (bi : i < 2 ^ 31) (bj : j < 2 ^ 31) (kt : i = j → J l D a g G nL M L tgt loc rest) (kf : ¬ i = j → J l D a g G nL M L (pc + 3) loc rest) : J l D a g G nL M L pc loc (.int y :: .int x :: rest) := by
  subst hx; subst hy
  exact J_icmp_eq hX tgt hd ht (fun h => kt ((nI_eq bi bj).mp h)) (fun h => kf (fun q => h ((nI_eq bi bj).mpr q)))
theorem J_cmpN_ne (hX : jX D a g G own cc nL fr lo) {x y : Int32} {off : Int} (tgt i j : Nat) (hd : decode cc pc = .ok (.if_icmp .ne off, 3)) (ht : (pc : Int) + off = (tgt : Int)) (hx : x = nI i) (hy : y = nI j) (bi : i < 2 ^ 31) (bj : j < 2 ^ 31) (kt : ¬ i = j → J l D a g G nL M L tgt loc rest) (kf : i = j → J l D a g G nL M L (pc + 3) loc rest) : J l D a g G nL M L pc loc (.int y :: .int x :: rest) := by
  subst hx; subst hy
  exact J_icmp_ne hX tgt hd ht (fun h => kt (fun q => h ((nI_eq bi bj).mpr q))) (fun h => kf (by first | exact (nI_eq bi bj).mp h | exact (nI_eq bi bj).mp (Classical.not_not.mp h)))
theorem J_cmpN_lt (hX : jX D a g G own cc nL fr lo) {x y : Int32} {off : Int} (tgt i j : Nat) (hd : decode cc pc = .ok (.if_icmp .lt off, 3)) (ht : (pc : Int) + off = (tgt : Int)) (hx : x = nI i) (hy : y = nI j) (bi : i < 2 ^ 31) (bj : j < 2 ^ 31) (kt : i < j → J l D a g G nL M L tgt loc rest) (kf : j ≤ i → J l D a g G nL M L (pc + 3) loc rest) : J l D a g G nL M L pc loc (.int y :: .int x :: rest) := by
  subst hx; subst hy
  exact J_icmp_lt hX tgt hd ht (fun h => kt ((nI_ltI bi bj).mp h)) (fun h => kf (Nat.not_lt.mp (fun q => h ((nI_ltI bi bj).mpr q))))
theorem J_cmpN_ge (hX : jX D a g G own cc nL fr lo) {x y : Int32} {off : Int} (tgt i j : Nat) (hd : decode cc pc = .ok (.if_icmp .ge off, 3)) (ht : (pc : Int) + off = (tgt : Int)) (hx : x = nI i) (hy : y = nI j) (bi : i < 2 ^ 31) (bj : j < 2 ^ 31) (kt : j ≤ i → J l D a g G nL M L tgt loc rest) (kf : i < j → J l D a g G nL M L (pc + 3) loc rest) : J l D a g G nL M L pc loc (.int y :: .int x :: rest) := by
  subst hx; subst hy
  exact J_icmp_ge hX tgt hd ht (fun h => kt ((nI_leI bj bi).mp h)) (fun h => kf (Nat.not_le.mp (fun q => h ((nI_leI bj bi).mpr q))))
theorem J_cmpN_gt (hX : jX D a g G own cc nL fr lo) {x y : Int32} {off : Int} (tgt i j : Nat) (hd : decode cc pc = .ok (.if_icmp .gt off, 3)) (ht : (pc : Int) + off = (tgt : Int)) (hx : x = nI i) (hy : y = nI j) (bi : i < 2 ^ 31) (bj : j < 2 ^ 31) (kt : j < i → J l D a g G nL M L tgt loc rest) (kf : i ≤ j → J l D a g G nL M L (pc + 3) loc rest) : J l D a g G nL M L pc loc (.int y :: .int x :: rest) := by
  subst hx; subst hy
  exact J_icmp_gt hX tgt hd ht (fun h => kt ((nI_ltI bj bi).mp h)) (fun h => kf (Nat.not_lt.mp (fun q => h ((nI_ltI bj bi).mpr q))))
theorem J_cmpN_le (hX : jX D a g G own cc nL fr lo) {x y : Int32} {off : Int} (tgt i j : Nat) (hd : decode cc pc = .ok (.if_icmp .le off, 3)) (ht : (pc : Int) + off = (tgt : Int)) (hx : x = nI i) (hy : y = nI j) (bi : i < 2 ^ 31) (bj : j < 2 ^ 31) (kt : i ≤ j → J l D a g G nL M L tgt loc rest) (kf : j < i → J l D a g G nL M L (pc + 3) loc rest) : J l D a g G nL M L pc loc (.int y :: .int x :: rest) := by
  subst hx; subst hy
  exact J_icmp_le hX tgt hd ht (fun h => kt ((nI_leI bi bj).mp h)) (fun h => kf (Nat.not_le.mp (fun q => h ((nI_leI bi bj).mpr q))))
end JN
theorem lk_L_13 : jLv RL 13 yX7_one cX7_one 5 (some .int) 3 := ⟨wm_5_18, wm_5_19, wm_5_20, wm_1_2, wm_5_21, by decide +kernel, by decide +kernel, by decide +kernel⟩
theorem lk_X7_58 : jLs RX7 58 yX7_isOne cX7_isOne 1 (some .boolean) 1 := ⟨wm_6_0, wm_6_1, wm_1_2, wm_6_2, by decide +kernel, by decide +kernel, by decide +kernel⟩
theorem lk_X7_62 : jLs RX7 62 yX7_within cX7_within 3 (some .boolean) 3 := ⟨wm_6_3, wm_6_4, wm_1_2, wm_6_5, by decide +kernel, by decide +kernel, by decide +kernel⟩
theorem lk_L_17 : jLv RL 17 yX8_one cX8_one 5 (some .int) 3 := ⟨wm_6_6, wm_6_7, wm_6_8, wm_1_5, wm_6_9, by decide +kernel, by decide +kernel, by decide +kernel⟩
theorem lk_X8_84 : jLs RX8 84 yX8_isOne cX8_isOne 1 (some .boolean) 1 := ⟨wm_6_11, wm_6_12, wm_1_5, wm_6_13, by decide +kernel, by decide +kernel, by decide +kernel⟩
theorem lk_X8_80 : jLs RX8 80 yX8_in cX8_in 6 (some .boolean) 3 := ⟨wm_6_15, wm_6_16, wm_1_5, wm_6_17, by decide +kernel, by decide +kernel, by decide +kernel⟩
theorem lk_L_18 : jLv RL 18 yX7_owe cX7_owe 5 (some .int) 3 := ⟨wm_6_18, wm_6_19, wm_6_20, wm_1_2, wm_6_21, by decide +kernel, by decide +kernel, by decide +kernel⟩
theorem lk_L_21 : jLv RL 21 yX8_owe cX8_owe 5 (some .int) 3 := ⟨wm_6_23, wm_7_0, wm_7_1, wm_1_5, wm_7_2, by decide +kernel, by decide +kernel, by decide +kernel⟩
theorem lk_L_22 : jLv RL 22 yX7_lot cX7_lot 5 (some .int) 3 := ⟨wm_7_4, wm_7_5, wm_7_6, wm_1_2, wm_7_7, by decide +kernel, by decide +kernel, by decide +kernel⟩
theorem lk_L_25 : jLv RL 25 yX8_lot cX8_lot 5 (some .int) 3 := ⟨wm_7_10, wm_7_11, wm_7_12, wm_1_5, wm_7_13, by decide +kernel, by decide +kernel, by decide +kernel⟩
theorem lk_L_26 : jLv RL 26 yX7_set cX7_set 4 (some .int) 2 := ⟨wm_7_16, wm_7_17, wm_7_18, wm_1_2, wm_7_19, by decide +kernel, by decide +kernel, by decide +kernel⟩
theorem lk_L_30 : jLv RL 30 yX8_set cX8_set 4 (some .int) 2 := ⟨wm_7_23, wm_8_0, wm_8_1, wm_1_5, wm_8_2, by decide +kernel, by decide +kernel, by decide +kernel⟩
theorem lk_L_31 : jLv RL 31 yX7_say cX7_say 2 (some .int) 1 := ⟨wm_8_6, wm_8_7, wm_8_8, wm_1_2, wm_8_9, by decide +kernel, by decide +kernel, by decide +kernel⟩
theorem lk_X7_94 : jLv RX7 94 yX1_add cX1_add 2 none 1 := ⟨wm_8_11, wm_8_12, wm_8_13, wm_1_22, wm_8_14, by decide +kernel, by decide +kernel, by decide +kernel⟩
theorem lk_L_35 : jLv RL 35 yX8_say cX8_say 2 (some .int) 1 := ⟨wm_8_16, wm_8_17, wm_8_18, wm_1_5, wm_8_19, by decide +kernel, by decide +kernel, by decide +kernel⟩
theorem lk_L_36 : jLv RL 36 yX7_wipe cX7_wipe 2 (some .int) 0 := ⟨wm_8_23, wm_9_0, wm_9_1, wm_1_2, wm_9_2, by decide +kernel, by decide +kernel, by decide +kernel⟩
theorem lk_L_40 : jLv RL 40 yX8_wipe cX8_wipe 2 (some .int) 0 := ⟨wm_9_3, wm_9_4, wm_9_5, wm_1_5, wm_9_6, by decide +kernel, by decide +kernel, by decide +kernel⟩
theorem lk_L_41 : jLv RL 41 yX7_fault cX7_fault 1 (some .int) 0 := ⟨wm_9_7, wm_9_8, wm_9_9, wm_1_2, wm_9_10, by decide +kernel, by decide +kernel, by decide +kernel⟩
theorem lk_X7_98 : jLv RX7 98 yX1_faultPlace cX1_faultPlace 3 (some .int) 0 := ⟨wm_9_11, wm_9_12, wm_9_13, wm_1_22, wm_9_14, by decide +kernel, by decide +kernel, by decide +kernel⟩
theorem lk_X1_19 : jLs RX1 19 yX1_nextBehind cX1_nextBehind 2 (some .int) 2 := ⟨wm_9_15, wm_9_16, wm_1_22, wm_9_17, by decide +kernel, by decide +kernel, by decide +kernel⟩
theorem lk_X1_23 : jLs RX1 23 yX1_nextBehindFirst cX1_nextBehindFirst 1 (some .int) 1 := ⟨wm_9_18, wm_9_19, wm_1_22, wm_9_20, by decide +kernel, by decide +kernel, by decide +kernel⟩
theorem lk_X1_31 : jLs RX1 31 yX1_isLetter cX1_isLetter 1 (some .boolean) 1 := ⟨wm_9_21, wm_9_22, wm_1_22, wm_9_23, by decide +kernel, by decide +kernel, by decide +kernel⟩
theorem lk_X1_35 : jLs RX1 35 yX1_nextBehindDeed cX1_nextBehindDeed 1 (some .int) 1 := ⟨wm_10_0, wm_10_1, wm_1_22, wm_10_2, by decide +kernel, by decide +kernel, by decide +kernel⟩
theorem lk_L_44 : jLv RL 44 yX8_fault cX8_fault 3 (some .int) 0 := ⟨wm_10_3, wm_10_4, wm_10_5, wm_1_5, wm_10_6, by decide +kernel, by decide +kernel, by decide +kernel⟩
theorem lk_X8_148 : jLv RX8 148 yX8_readOn cX8_readOn 3 (some .int) 2 := ⟨wm_10_8, wm_10_9, wm_10_10, wm_1_5, wm_10_11, by decide +kernel, by decide +kernel, by decide +kernel⟩
theorem lk_X8_130 : jLv RX8 130 yX8_begin cX8_begin 2 (some .int) 1 := ⟨wm_10_14, wm_10_15, wm_10_16, wm_1_5, wm_10_17, by decide +kernel, by decide +kernel, by decide +kernel⟩
theorem lk_X8_119 : jLs RX8 119 yX8_isLetter cX8_isLetter 1 (some .boolean) 1 := ⟨wm_10_18, wm_10_19, wm_1_5, wm_10_20, by decide +kernel, by decide +kernel, by decide +kernel⟩
theorem lk_X8_122 : jLv RX8 122 yX8_close cX8_close 3 (some .int) 2 := ⟨wm_10_23, wm_11_0, wm_11_1, wm_1_5, wm_11_2, by decide +kernel, by decide +kernel, by decide +kernel⟩
theorem lk_X8_134 : jLs RX8 134 yX8_deed cX8_deed 1 (some .int) 1 := ⟨wm_11_3, wm_11_4, wm_1_5, wm_11_5, by decide +kernel, by decide +kernel, by decide +kernel⟩
theorem lk_X8_137 : jLv RX8 137 yX8_number cX8_number 4 (some .int) 3 := ⟨wm_11_6, wm_11_7, wm_11_8, wm_1_5, wm_11_9, by decide +kernel, by decide +kernel, by decide +kernel⟩
theorem lk_X8_141 : jLv RX8 141 yX8_forWhom cX8_forWhom 2 (some .int) 1 := ⟨wm_11_12, wm_11_13, wm_11_14, wm_1_5, wm_11_15, by decide +kernel, by decide +kernel, by decide +kernel⟩
theorem lk_L_45 : jLv RL 45 yX7_judge cX7_judge 3 (some .int) 1 := ⟨wm_11_16, wm_11_17, wm_11_18, wm_1_2, wm_11_19, by decide +kernel, by decide +kernel, by decide +kernel⟩
theorem lk_X7_102 : jLv RX7 102 yX7_tryMonths cX7_tryMonths 2 (some .int) 1 := ⟨wm_11_23, wm_12_0, wm_12_1, wm_1_2, wm_12_2, by decide +kernel, by decide +kernel, by decide +kernel⟩
theorem lk_X7_153 : jLv RX7 153 yX5_follow cX5_follow 5 none 3 := ⟨wm_12_3, wm_12_4, wm_12_5, wm_2_2, wm_12_6, by decide +kernel, by decide +kernel, by decide +kernel⟩
theorem lk_X5_18 : jLv RX5 18 yX2_copyFrom cX2_copyFrom 3 none 1 := ⟨wm_12_16, wm_12_17, wm_12_18, wm_1_14, wm_12_19, by decide +kernel, by decide +kernel, by decide +kernel⟩
theorem lk_X5_40 : jLv RX5 40 yX5_read cX5_read 5 none 2 := ⟨wm_13_4, wm_13_5, wm_13_6, wm_2_2, wm_13_7, by decide +kernel, by decide +kernel, by decide +kernel⟩
theorem lk_X5_68 : jLv RX5 68 yX1_signAt cX1_signAt 2 (some .int) 1 := ⟨wm_13_8, wm_13_9, wm_13_10, wm_1_22, wm_13_11, by decide +kernel, by decide +kernel, by decide +kernel⟩
theorem lk_X5_72 : jLs RX5 72 yX5_kindOf cX5_kindOf 2 (some .int) 2 := ⟨wm_13_12, wm_13_13, wm_2_2, wm_13_14, by decide +kernel, by decide +kernel, by decide +kernel⟩
theorem lk_X5_76 : jLs RX5 76 yX5_kindOfDeed cX5_kindOfDeed 1 (some .int) 1 := ⟨wm_13_15, wm_13_16, wm_2_2, wm_13_17, by decide +kernel, by decide +kernel, by decide +kernel⟩
theorem lk_X5_53 : jLv RX5 53 yX2_act cX2_act 4 (some .int) 3 := ⟨wm_13_18, wm_13_19, wm_13_20, wm_1_14, wm_13_21, by decide +kernel, by decide +kernel, by decide +kernel⟩
theorem lk_X2_66 : jLv RX2 66 yX2_printed cX2_printed 2 (some .int) 1 := ⟨wm_13_22, wm_13_23, wm_14_0, wm_1_14, wm_14_1, by decide +kernel, by decide +kernel, by decide +kernel⟩
theorem lk_X2_69 : jLv RX2 69 yX2_paidByState cX2_paidByState 3 (some .int) 2 := ⟨wm_14_3, wm_14_4, wm_14_5, wm_1_14, wm_14_6, by decide +kernel, by decide +kernel, by decide +kernel⟩
theorem lk_X2_72 : jLv RX2 72 yX2_bought cX2_bought 3 (some .int) 2 := ⟨wm_14_7, wm_14_8, wm_14_9, wm_1_14, wm_14_10, by decide +kernel, by decide +kernel, by decide +kernel⟩
theorem lk_X2_75 : jLv RX2 75 yX2_exchanged cX2_exchanged 4 (some .int) 2 := ⟨wm_14_11, wm_14_12, wm_14_13, wm_1_14, wm_14_14, by decide +kernel, by decide +kernel, by decide +kernel⟩
theorem lk_X2_88 : jLv RX2 88 yX2_rate cX2_rate 1 (some .int) 0 := ⟨wm_14_15, wm_14_16, wm_14_17, wm_1_14, wm_14_18, by decide +kernel, by decide +kernel, by decide +kernel⟩
theorem lk_X2_48 : jLv RX2 48 yX2_land cX2_land 3 (some .int) 0 := ⟨wm_14_19, wm_14_20, wm_14_21, wm_1_14, wm_14_22, by decide +kernel, by decide +kernel, by decide +kernel⟩
theorem lk_X2_52 : jLv RX2 52 yX2_notes cX2_notes 3 (some .int) 0 := ⟨wm_14_23, wm_15_0, wm_15_1, wm_1_14, wm_15_2, by decide +kernel, by decide +kernel, by decide +kernel⟩
theorem lk_X2_78 : jLv RX2 78 yX2_settled cX2_settled 4 (some .int) 2 := ⟨wm_15_9, wm_15_10, wm_15_11, wm_1_14, wm_15_12, by decide +kernel, by decide +kernel, by decide +kernel⟩
theorem lk_X2_81 : jLv RX2 81 yX2_forgedFor cX2_forgedFor 3 (some .int) 2 := ⟨wm_15_14, wm_15_15, wm_15_16, wm_1_14, wm_15_17, by decide +kernel, by decide +kernel, by decide +kernel⟩
theorem lk_X2_84 : jLv RX2 84 yX2_monthEnded cX2_monthEnded 1 (some .int) 0 := ⟨wm_15_18, wm_15_19, wm_15_20, wm_1_14, wm_15_21, by decide +kernel, by decide +kernel, by decide +kernel⟩
theorem lk_X5_57 : jLv RX5 57 yX5_endMonth cX5_endMonth 2 none 1 := ⟨wm_15_22, wm_15_23, wm_16_0, wm_2_2, wm_16_1, by decide +kernel, by decide +kernel, by decide +kernel⟩
theorem lk_X5_64 : jLv RX5 64 yX2_rate cX2_rate 1 (some .int) 0 := ⟨wm_16_2, wm_14_16, wm_14_17, wm_1_14, wm_14_18, by decide +kernel, by decide +kernel, by decide +kernel⟩
theorem lk_L_48 : jLv RL 48 yX8_judge cX8_judge 3 (some .int) 1 := ⟨wm_16_3, wm_16_4, wm_16_5, wm_1_5, wm_16_6, by decide +kernel, by decide +kernel, by decide +kernel⟩
theorem lk_X8_223 : jLv RX8 223 yX8_refusal cX8_refusal 1 (some .int) 0 := ⟨wm_16_11, wm_16_12, wm_16_13, wm_1_5, wm_16_14, by decide +kernel, by decide +kernel, by decide +kernel⟩
theorem lk_X8_212 : jLv RX8 212 yX8_keepNow cX8_keepNow 2 none 0 := ⟨wm_16_15, wm_16_16, wm_16_17, wm_1_5, wm_16_18, by decide +kernel, by decide +kernel, by decide +kernel⟩
theorem lk_X8_215 : jLv RX8 215 yX8_fault cX8_fault 3 (some .int) 0 := ⟨wm_16_21, wm_10_4, wm_10_5, wm_1_5, wm_10_6, by decide +kernel, by decide +kernel, by decide +kernel⟩
theorem lk_X8_218 : jLv RX8 218 yX8_goMonths cX8_goMonths 3 none 0 := ⟨wm_16_22, wm_16_23, wm_17_0, wm_1_5, wm_17_1, by decide +kernel, by decide +kernel, by decide +kernel⟩
theorem lk_X8_205 : jLv RX8 205 yX8_whyNot cX8_whyNot 4 (some .int) 3 := ⟨wm_17_2, wm_17_3, wm_17_4, wm_1_5, wm_17_5, by decide +kernel, by decide +kernel, by decide +kernel⟩
theorem lk_X8_174 : jLv RX8 174 yX8_whyNotChange cX8_whyNotChange 3 (some .int) 2 := ⟨wm_17_7, wm_17_8, wm_17_9, wm_1_5, wm_17_10, by decide +kernel, by decide +kernel, by decide +kernel⟩
theorem lk_X8_167 : jLv RX8 167 yX8_worth cX8_worth 2 (some .int) 1 := ⟨wm_17_11, wm_17_12, wm_17_13, wm_1_5, wm_17_14, by decide +kernel, by decide +kernel, by decide +kernel⟩
theorem lk_X8_164 : jLv RX8 164 yX8_rate cX8_rate 1 (some .int) 0 := ⟨wm_17_15, wm_17_16, wm_17_17, wm_1_5, wm_17_18, by decide +kernel, by decide +kernel, by decide +kernel⟩
theorem lk_X8_153 : jLv RX8 153 yX8_land cX8_land 3 (some .int) 0 := ⟨wm_17_19, wm_17_20, wm_17_21, wm_1_5, wm_17_22, by decide +kernel, by decide +kernel, by decide +kernel⟩
theorem lk_X8_157 : jLv RX8 157 yX8_notes cX8_notes 3 (some .int) 0 := ⟨wm_17_23, wm_18_0, wm_18_1, wm_1_5, wm_18_2, by decide +kernel, by decide +kernel, by decide +kernel⟩
theorem lk_X8_160 : jLs RX8 160 yX8_rateOf cX8_rateOf 5 (some .int) 2 := ⟨wm_18_3, wm_18_4, wm_1_5, wm_18_5, by decide +kernel, by decide +kernel, by decide +kernel⟩
theorem lk_X8_177 : jLv RX8 177 yX8_whyNotPay cX8_whyNotPay 4 (some .int) 2 := ⟨wm_18_7, wm_18_8, wm_18_9, wm_1_5, wm_18_10, by decide +kernel, by decide +kernel, by decide +kernel⟩
theorem lk_X8_171 : jLv RX8 171 yX8_payment cX8_payment 4 (some .int) 2 := ⟨wm_18_11, wm_18_12, wm_18_13, wm_1_5, wm_18_14, by decide +kernel, by decide +kernel, by decide +kernel⟩
theorem lk_X8_208 : jLv RX8 208 yX8_happen cX8_happen 4 none 3 := ⟨wm_18_15, wm_18_16, wm_18_17, wm_1_5, wm_18_18, by decide +kernel, by decide +kernel, by decide +kernel⟩
theorem lk_X8_186 : jLv RX8 186 yX8_buy cX8_buy 3 none 2 := ⟨wm_18_19, wm_18_20, wm_18_21, wm_1_5, wm_18_22, by decide +kernel, by decide +kernel, by decide +kernel⟩
theorem lk_X8_190 : jLv RX8 190 yX8_swap cX8_swap 3 none 2 := ⟨wm_18_23, wm_19_0, wm_19_1, wm_1_5, wm_19_2, by decide +kernel, by decide +kernel, by decide +kernel⟩
theorem lk_X8_193 : jLv RX8 193 yX8_pay cX8_pay 4 none 2 := ⟨wm_19_3, wm_19_4, wm_19_5, wm_1_5, wm_19_6, by decide +kernel, by decide +kernel, by decide +kernel⟩
theorem lk_X8_226 : jLv RX8 226 yX8_back cX8_back 3 (some .int) 1 := ⟨wm_19_7, wm_19_8, wm_19_9, wm_1_5, wm_19_10, by decide +kernel, by decide +kernel, by decide +kernel⟩
theorem lk_L_49 : jLv RL 49 yX7_behind cX7_behind 4 (some .int) 2 := ⟨wm_19_11, wm_19_12, wm_19_13, wm_1_2, wm_19_14, by decide +kernel, by decide +kernel, by decide +kernel⟩
theorem lk_X7_118 : jLv RX7 118 yX2_ofOne cX2_ofOne 3 (some .int) 2 := ⟨wm_19_16, wm_19_17, wm_19_18, wm_1_14, wm_19_19, by decide +kernel, by decide +kernel, by decide +kernel⟩
theorem lk_X2_59 : jLv RX2 59 yX2_lotsOf cX2_lotsOf 4 (some .int) 1 := ⟨wm_19_20, wm_19_21, wm_19_22, wm_1_14, wm_19_23, by decide +kernel, by decide +kernel, by decide +kernel⟩
theorem lk_X2_63 : jLv RX2 63 yX2_owesInAll cX2_owesInAll 4 (some .int) 1 := ⟨wm_20_0, wm_20_1, wm_20_2, wm_1_14, wm_20_3, by decide +kernel, by decide +kernel, by decide +kernel⟩
theorem lk_L_52 : jLv RL 52 yX8_behind cX8_behind 4 (some .int) 2 := ⟨wm_20_4, wm_20_5, wm_20_6, wm_1_5, wm_20_7, by decide +kernel, by decide +kernel, by decide +kernel⟩
theorem lk_X8_237 : jLv RX8 237 yX8_ofOne cX8_ofOne 3 (some .int) 2 := ⟨wm_20_9, wm_20_10, wm_20_11, wm_1_5, wm_20_12, by decide +kernel, by decide +kernel, by decide +kernel⟩
theorem lk_X8_229 : jLv RX8 229 yX8_lotsOf cX8_lotsOf 4 (some .int) 1 := ⟨wm_20_13, wm_20_14, wm_20_15, wm_1_5, wm_20_16, by decide +kernel, by decide +kernel, by decide +kernel⟩
theorem lk_X8_232 : jLv RX8 232 yX8_owesInAll cX8_owesInAll 4 (some .int) 1 := ⟨wm_20_17, wm_20_18, wm_20_19, wm_1_5, wm_20_20, by decide +kernel, by decide +kernel, by decide +kernel⟩
theorem lk_L_53 : jLv RL 53 yX7_total cX7_total 3 (some .int) 1 := ⟨wm_20_21, wm_20_22, wm_20_23, wm_1_2, wm_21_0, by decide +kernel, by decide +kernel, by decide +kernel⟩
theorem lk_X7_122 : jLv RX7 122 yX2_notes cX2_notes 3 (some .int) 0 := ⟨wm_21_3, wm_15_0, wm_15_1, wm_1_14, wm_15_2, by decide +kernel, by decide +kernel, by decide +kernel⟩
theorem lk_X7_125 : jLv RX7 125 yX2_land cX2_land 3 (some .int) 0 := ⟨wm_21_4, wm_14_20, wm_14_21, wm_1_14, wm_14_22, by decide +kernel, by decide +kernel, by decide +kernel⟩
theorem lk_X7_128 : jLv RX7 128 yX2_rate cX2_rate 1 (some .int) 0 := ⟨wm_21_5, wm_14_16, wm_14_17, wm_1_14, wm_14_18, by decide +kernel, by decide +kernel, by decide +kernel⟩
theorem lk_L_56 : jLv RL 56 yX8_total cX8_total 3 (some .int) 1 := ⟨wm_21_6, wm_21_7, wm_21_8, wm_1_5, wm_21_9, by decide +kernel, by decide +kernel, by decide +kernel⟩
theorem lk_X8_240 : jLv RX8 240 yX8_ofAll cX8_ofAll 2 (some .int) 1 := ⟨wm_21_10, wm_21_11, wm_21_12, wm_1_5, wm_21_13, by decide +kernel, by decide +kernel, by decide +kernel⟩
theorem lk_L_57 : jLv RL 57 yX7_fell cX7_fell 3 (some .int) 1 := ⟨wm_21_14, wm_21_15, wm_21_16, wm_1_2, wm_21_17, by decide +kernel, by decide +kernel, by decide +kernel⟩
theorem lk_L_60 : jLv RL 60 yX8_fell cX8_fell 4 (some .int) 1 := ⟨wm_21_19, wm_21_20, wm_21_21, wm_1_5, wm_21_22, by decide +kernel, by decide +kernel, by decide +kernel⟩
theorem lk_L_61 : jLv RL 61 yX7_done cX7_done 2 (some .int) 0 := ⟨wm_21_23, wm_22_0, wm_22_1, wm_1_2, wm_22_2, by decide +kernel, by decide +kernel, by decide +kernel⟩
theorem lk_X7_140 : jLv RX7 140 yX2_copyFrom cX2_copyFrom 3 none 1 := ⟨wm_22_3, wm_12_17, wm_12_18, wm_1_14, wm_12_19, by decide +kernel, by decide +kernel, by decide +kernel⟩
theorem lk_L_64 : jLv RL 64 yX8_done cX8_done 2 (some .int) 0 := ⟨wm_22_4, wm_22_5, wm_22_6, wm_1_5, wm_22_7, by decide +kernel, by decide +kernel, by decide +kernel⟩
theorem lk_L_65 : jLv RL 65 yX7_struck cX7_struck 2 (some .int) 1 := ⟨wm_22_8, wm_22_9, wm_22_10, wm_1_2, wm_22_11, by decide +kernel, by decide +kernel, by decide +kernel⟩
theorem lk_X7_144 : jLv RX7 144 yX3_weigh cX3_weigh 4 none 1 := ⟨wm_22_12, wm_22_13, wm_22_14, wm_2_6, wm_22_15, by decide +kernel, by decide +kernel, by decide +kernel⟩
theorem lk_X3_18 : jLv RX3 18 yX2_owesInAll cX2_owesInAll 4 (some .int) 1 := ⟨wm_22_17, wm_20_1, wm_20_2, wm_1_14, wm_20_3, by decide +kernel, by decide +kernel, by decide +kernel⟩
theorem lk_X7_147 : jLv RX7 147 yX3_fewestPayments cX3_fewestPayments 5 (some .int) 0 := ⟨wm_22_18, wm_22_19, wm_22_20, wm_2_6, wm_22_21, by decide +kernel, by decide +kernel, by decide +kernel⟩
theorem lk_X3_34 : jLv RX3 34 yX3_dueTo cX3_dueTo 4 (some .int) 1 := ⟨wm_23_1, wm_23_2, wm_23_3, wm_2_6, wm_23_4, by decide +kernel, by decide +kernel, by decide +kernel⟩
theorem lk_X7_150 : jLv RX7 150 yX3_leastPaid cX3_leastPaid 3 (some .int) 0 := ⟨wm_23_5, wm_23_6, wm_23_7, wm_2_6, wm_23_8, by decide +kernel, by decide +kernel, by decide +kernel⟩
theorem lk_L_68 : jLv RL 68 yX8_struck cX8_struck 5 (some .int) 1 := ⟨wm_23_9, wm_23_10, wm_23_11, wm_1_5, wm_23_12, by decide +kernel, by decide +kernel, by decide +kernel⟩
theorem lk_X8_246 : jLv RX8 246 yX8_mostEven cX8_mostEven 6 (some .int) 1 := ⟨wm_23_13, wm_23_14, wm_23_15, wm_1_5, wm_23_16, by decide +kernel, by decide +kernel, by decide +kernel⟩
theorem lk_X8_243 : jLv RX8 243 yX8_netOf cX8_netOf 4 (some .int) 1 := ⟨wm_23_17, wm_23_18, wm_23_19, wm_1_5, wm_23_20, by decide +kernel, by decide +kernel, by decide +kernel⟩
theorem lk_L_69 : jLv RL 69 yX7_prints cX7_prints 4 (some .int) 1 := ⟨wm_23_21, wm_23_22, wm_23_23, wm_1_2, wm_24_0, by decide +kernel, by decide +kernel, by decide +kernel⟩
theorem lk_L_72 : jLv RL 72 yX8_prints cX8_prints 4 (some .int) 1 := ⟨wm_24_1, wm_24_2, wm_24_3, wm_1_5, wm_24_4, by decide +kernel, by decide +kernel, by decide +kernel⟩
theorem lk_L_73 : jLv RL 73 yX7_buys cX7_buys 8 (some .int) 2 := ⟨wm_24_5, wm_24_6, wm_24_7, wm_1_2, wm_24_8, by decide +kernel, by decide +kernel, by decide +kernel⟩
theorem lk_X7_162 : jLv RX7 162 yX2_lotsOf cX2_lotsOf 4 (some .int) 1 := ⟨wm_24_9, wm_19_21, wm_19_22, wm_1_14, wm_19_23, by decide +kernel, by decide +kernel, by decide +kernel⟩
theorem lk_X7_165 : jLv RX7 165 yX2_priceOf cX2_priceOf 4 (some .int) 1 := ⟨wm_24_10, wm_24_11, wm_24_12, wm_1_14, wm_24_13, by decide +kernel, by decide +kernel, by decide +kernel⟩
theorem lk_L_76 : jLv RL 76 yX8_buys cX8_buys 7 (some .int) 2 := ⟨wm_24_14, wm_24_15, wm_24_16, wm_1_5, wm_24_17, by decide +kernel, by decide +kernel, by decide +kernel⟩
theorem lk_X8_249 : jLv RX8 249 yX8_pricesOf cX8_pricesOf 4 (some .int) 1 := ⟨wm_24_18, wm_24_19, wm_24_20, wm_1_5, wm_24_21, by decide +kernel, by decide +kernel, by decide +kernel⟩
theorem lk_L_77 : jLv RL 77 yX7_runs cX7_runs 8 (some .int) 3 := ⟨wm_24_22, wm_24_23, wm_25_0, wm_1_2, wm_25_1, by decide +kernel, by decide +kernel, by decide +kernel⟩
theorem lk_X7_168 : jLs RX7 168 yX7_rateOf cX7_rateOf 2 (some .int) 2 := ⟨wm_25_2, wm_15_3, wm_1_2, wm_15_4, by decide +kernel, by decide +kernel, by decide +kernel⟩
theorem lk_L_80 : jLv RL 80 yX8_runs cX8_runs 8 (some .int) 3 := ⟨wm_25_3, wm_25_4, wm_25_5, wm_1_5, wm_25_6, by decide +kernel, by decide +kernel, by decide +kernel⟩
theorem lk_L_81 : jLv RL 81 yX7_wages cX7_wages 8 (some .int) 2 := ⟨wm_25_8, wm_25_9, wm_25_10, wm_1_2, wm_25_11, by decide +kernel, by decide +kernel, by decide +kernel⟩
theorem lk_L_84 : jLv RL 84 yX8_wages cX8_wages 7 (some .int) 2 := ⟨wm_25_14, wm_25_15, wm_25_16, wm_1_5, wm_25_17, by decide +kernel, by decide +kernel, by decide +kernel⟩
theorem lk_L_85 : jLv RL 85 yX7_change cX7_change 10 (some .long) 5 := ⟨wm_25_20, wm_25_21, wm_25_22, wm_1_2, wm_25_23, by decide +kernel, by decide +kernel, by decide +kernel⟩
theorem lk_X7_179 : jLv RX7 179 yX6_scaledMean cX6_scaledMean 12 (some .long) 3 := ⟨wm_26_2, wm_26_3, wm_26_4, wm_2_10, wm_26_5, by decide +kernel, by decide +kernel, by decide +kernel⟩
theorem lk_X7_183 : jLs RX7 183 yX7_lowest cX7_lowest 12 (some .long) 3 := ⟨wm_26_11, wm_26_12, wm_1_2, wm_26_13, by decide +kernel, by decide +kernel, by decide +kernel⟩
theorem lk_L_89 : jLv RL 89 yX8_change cX8_change 13 (some .long) 5 := ⟨wm_26_14, wm_26_15, wm_26_16, wm_1_5, wm_26_17, by decide +kernel, by decide +kernel, by decide +kernel⟩
theorem lk_X8_264 : jLs RX8 264 yX8_lowest cX8_lowest 11 (some .long) 3 := ⟨wm_26_21, wm_26_22, wm_1_5, wm_26_23, by decide +kernel, by decide +kernel, by decide +kernel⟩
theorem lk_L_90 : jLv RL 90 yX7_sample cX7_sample 6 (some .long) 5 := ⟨wm_27_0, wm_27_1, wm_27_2, wm_1_2, wm_27_3, by decide +kernel, by decide +kernel, by decide +kernel⟩
theorem lk_X7_187 : jLs RX7 187 yX7_choices cX7_choices 5 (some .long) 2 := ⟨wm_27_4, wm_27_5, wm_1_2, wm_27_6, by decide +kernel, by decide +kernel, by decide +kernel⟩
theorem lk_L_93 : jLv RL 93 yX8_sample cX8_sample 6 (some .long) 5 := ⟨wm_27_7, wm_27_8, wm_27_9, wm_1_5, wm_27_10, by decide +kernel, by decide +kernel, by decide +kernel⟩
theorem lk_X8_270 : jLv RX8 270 yX8_chooseOf cX8_chooseOf 5 (some .long) 2 := ⟨wm_27_12, wm_27_13, wm_27_14, wm_1_5, wm_27_15, by decide +kernel, by decide +kernel, by decide +kernel⟩
theorem lk_L_94 : jLv RL 94 yX7_seen cX7_seen 4 (some .int) 3 := ⟨wm_27_16, wm_27_17, wm_27_18, wm_1_2, wm_27_19, by decide +kernel, by decide +kernel, by decide +kernel⟩
theorem lk_X7_192 : jLv RX7 192 yX4_add cX4_add 4 none 3 := ⟨wm_27_21, wm_27_22, wm_27_23, wm_1_18, wm_28_0, by decide +kernel, by decide +kernel, by decide +kernel⟩
theorem lk_L_97 : jLv RL 97 yX8_seen cX8_seen 4 (some .int) 3 := ⟨wm_28_2, wm_28_3, wm_28_4, wm_1_5, wm_28_5, by decide +kernel, by decide +kernel, by decide +kernel⟩
theorem lk_L_98 : jLv RL 98 yX7_forget cX7_forget 2 (some .int) 0 := ⟨wm_28_8, wm_28_9, wm_28_10, wm_1_2, wm_28_11, by decide +kernel, by decide +kernel, by decide +kernel⟩
theorem lk_L_101 : jLv RL 101 yX8_forget cX8_forget 2 (some .int) 0 := ⟨wm_28_12, wm_28_13, wm_28_14, wm_1_5, wm_28_15, by decide +kernel, by decide +kernel, by decide +kernel⟩
theorem lk_L_102 : jLv RL 102 yX7_clerks cX7_clerks 5 (some .int) 2 := ⟨wm_28_16, wm_28_17, wm_28_18, wm_1_2, wm_28_19, by decide +kernel, by decide +kernel, by decide +kernel⟩
theorem lk_X7_195 : jLv RX7 195 yX4_fit cX4_fit 5 (some .boolean) 2 := ⟨wm_28_20, wm_28_21, wm_28_22, wm_1_18, wm_28_23, by decide +kernel, by decide +kernel, by decide +kernel⟩
theorem lk_X4_34 : jLs RX4 34 yJ6_bitCount_0f7a4 cJ6_bitCount_0f7a4 1 (some .int) 1 := ⟨wm_29_0, wm_29_1, wm_29_2, wm_29_3, by decide +kernel, by decide +kernel, by decide +kernel⟩
theorem lk_L_105 : jLv RL 105 yX8_clerks cX8_clerks 5 (some .int) 2 := ⟨wm_29_7, wm_29_8, wm_29_9, wm_1_5, wm_29_10, by decide +kernel, by decide +kernel, by decide +kernel⟩
theorem lk_X8_282 : jLv RX8 282 yX8_fits cX8_fits 6 (some .boolean) 2 := ⟨wm_29_11, wm_29_12, wm_29_13, wm_1_5, wm_29_14, by decide +kernel, by decide +kernel, by decide +kernel⟩
theorem lk_X8_279 : jLs RX8 279 yX8_bitsOf cX8_bitsOf 3 (some .int) 1 := ⟨wm_29_15, wm_29_16, wm_1_5, wm_29_17, by decide +kernel, by decide +kernel, by decide +kernel⟩
theorem lk_L_106 : jLv RL 106 yX7_count cX7_count 6 (some .int) 2 := ⟨wm_29_18, wm_29_19, wm_29_20, wm_1_2, wm_29_21, by decide +kernel, by decide +kernel, by decide +kernel⟩
theorem lk_X7_199 : jLv RX7 199 yX4_tally cX4_tally 5 (some .int) 1 := ⟨wm_29_22, wm_29_23, wm_30_0, wm_1_18, wm_30_1, by decide +kernel, by decide +kernel, by decide +kernel⟩
theorem lk_X4_40 : jLv RX4 40 yX4_fit cX4_fit 5 (some .boolean) 2 := ⟨wm_30_2, wm_28_21, wm_28_22, wm_1_18, wm_28_23, by decide +kernel, by decide +kernel, by decide +kernel⟩
theorem lk_X7_202 : jLv RX7 202 yX4_mostLeft cX4_mostLeft 3 (some .int) 2 := ⟨wm_30_3, wm_30_4, wm_30_5, wm_1_18, wm_30_6, by decide +kernel, by decide +kernel, by decide +kernel⟩
theorem lk_L_109 : jLv RL 109 yX8_count cX8_count 7 (some .int) 2 := ⟨wm_30_8, wm_30_9, wm_30_10, wm_1_5, wm_30_11, by decide +kernel, by decide +kernel, by decide +kernel⟩
theorem lk_X8_286 : jLv RX8 286 yX8_mostLeft cX8_mostLeft 7 (some .int) 2 := ⟨wm_30_12, wm_30_13, wm_30_14, wm_1_5, wm_30_15, by decide +kernel, by decide +kernel, by decide +kernel⟩
theorem lk_L_110 : jLv RL 110 yX7_year cX7_year 8 (some .int) 3 := ⟨wm_30_16, wm_30_17, wm_30_18, wm_1_2, wm_30_19, by decide +kernel, by decide +kernel, by decide +kernel⟩
theorem lk_X7_206 : jLs RX7 206 yX7_drawnNumber cX7_drawnNumber 2 (some .int) 2 := ⟨wm_30_21, wm_30_22, wm_1_2, wm_30_23, by decide +kernel, by decide +kernel, by decide +kernel⟩
theorem lk_X7_209 : jLv RX7 209 yX2_act cX2_act 4 (some .int) 3 := ⟨wm_31_0, wm_13_19, wm_13_20, wm_1_14, wm_13_21, by decide +kernel, by decide +kernel, by decide +kernel⟩
theorem lk_X7_213 : jLs RX7 213 yJ6_bitCount_0f7a4 cJ6_bitCount_0f7a4 1 (some .int) 1 := ⟨wm_31_1, wm_29_1, wm_29_2, wm_29_3, by decide +kernel, by decide +kernel, by decide +kernel⟩
theorem lk_L_113 : jLv RL 113 yX8_year cX8_year 9 (some .int) 3 := ⟨wm_31_2, wm_31_3, wm_31_4, wm_1_5, wm_31_5, by decide +kernel, by decide +kernel, by decide +kernel⟩
theorem lk_X8_295 : jLs RX8 295 yX8_actBy cX8_actBy 1 (some .int) 1 := ⟨wm_31_9, wm_31_10, wm_1_5, wm_31_11, by decide +kernel, by decide +kernel, by decide +kernel⟩
theorem lk_X8_298 : jLs RX8 298 yX8_muchBy cX8_muchBy 2 (some .int) 2 := ⟨wm_31_12, wm_31_13, wm_1_5, wm_31_14, by decide +kernel, by decide +kernel, by decide +kernel⟩
theorem lk_L_114 : jLv RL 114 yX7_image cX7_image 2 (some .int) 1 := ⟨wm_31_15, wm_31_16, wm_31_17, wm_1_2, wm_31_18, by decide +kernel, by decide +kernel, by decide +kernel⟩
theorem lk_X7_220 : jLv RX7 220 yX4_copyFrom cX4_copyFrom 2 none 1 := ⟨wm_31_22, wm_31_23, wm_32_0, wm_1_18, wm_32_1, by decide +kernel, by decide +kernel, by decide +kernel⟩
theorem lk_L_117 : jLv RL 117 yX8_image cX8_image 2 (some .int) 1 := ⟨wm_32_3, wm_32_4, wm_32_5, wm_1_5, wm_32_6, by decide +kernel, by decide +kernel, by decide +kernel⟩
theorem lk_X8_315 : jLv RX8 315 yX8_passAll cX8_passAll 1 none 0 := ⟨wm_32_9, wm_32_10, wm_32_11, wm_1_5, wm_32_12, by decide +kernel, by decide +kernel, by decide +kernel⟩
theorem lk_X8_308 : jLv RX8 308 yX8_pass cX8_pass 3 (some .int) 1 := ⟨wm_32_13, wm_32_14, wm_32_15, wm_1_5, wm_32_16, by decide +kernel, by decide +kernel, by decide +kernel⟩
theorem lk_X8_311 : jLv RX8 311 yX8_passRow cX8_passRow 4 none 2 := ⟨wm_32_17, wm_32_18, wm_32_19, wm_1_5, wm_32_20, by decide +kernel, by decide +kernel, by decide +kernel⟩
theorem lk_L_118 : jLv RL 118 yX7_restore cX7_restore 2 (some .int) 1 := ⟨wm_32_21, wm_32_22, wm_32_23, wm_1_2, wm_33_0, by decide +kernel, by decide +kernel, by decide +kernel⟩
theorem lk_L_121 : jLv RL 121 yX8_restore cX8_restore 2 (some .int) 1 := ⟨wm_33_1, wm_33_2, wm_33_3, wm_1_5, wm_33_4, by decide +kernel, by decide +kernel, by decide +kernel⟩
theorem lk_L_122 : jLv RL 122 yX7_told cX7_told 3 (some .int) 1 := ⟨wm_33_5, wm_33_6, wm_33_7, wm_1_2, wm_33_8, by decide +kernel, by decide +kernel, by decide +kernel⟩
theorem lk_X7_227 : jLv RX7 227 yX7_toldOfAll cX7_toldOfAll 2 (some .int) 1 := ⟨wm_33_9, wm_33_10, wm_33_11, wm_1_2, wm_33_12, by decide +kernel, by decide +kernel, by decide +kernel⟩
theorem lk_X7_230 : jLv RX7 230 yX7_toldOfOne cX7_toldOfOne 3 (some .int) 2 := ⟨wm_33_13, wm_33_14, wm_33_15, wm_1_2, wm_33_16, by decide +kernel, by decide +kernel, by decide +kernel⟩
theorem lk_X7_233 : jLv RX7 233 yX7_toldOfLot cX7_toldOfLot 3 (some .int) 2 := ⟨wm_33_17, wm_33_18, wm_33_19, wm_1_2, wm_33_20, by decide +kernel, by decide +kernel, by decide +kernel⟩
theorem lk_X7_236 : jLv RX7 236 yX7_toldOfDebt cX7_toldOfDebt 3 (some .int) 2 := ⟨wm_33_21, wm_33_22, wm_33_23, wm_1_2, wm_34_0, by decide +kernel, by decide +kernel, by decide +kernel⟩
theorem lk_L_125 : jLv RL 125 yX8_told cX8_told 3 (some .int) 1 := ⟨wm_34_1, wm_34_2, wm_34_3, wm_1_5, wm_34_4, by decide +kernel, by decide +kernel, by decide +kernel⟩
theorem lk_X8_326 : jLv RX8 326 yX8_toldOfOne cX8_toldOfOne 3 (some .int) 2 := ⟨wm_34_9, wm_34_10, wm_34_11, wm_1_5, wm_34_12, by decide +kernel, by decide +kernel, by decide +kernel⟩
theorem lk_X8_329 : jLv RX8 329 yX8_toldOfAll cX8_toldOfAll 2 (some .int) 1 := ⟨wm_34_13, wm_34_14, wm_34_15, wm_1_5, wm_34_16, by decide +kernel, by decide +kernel, by decide +kernel⟩
theorem lk_X1_27 : jLn yX7_within cX7_within 3 (some .boolean) 3 := ⟨wm_6_4, wm_1_2, wm_6_5, by decide +kernel, by decide +kernel, by decide +kernel⟩
theorem lk_X2_55 : jLn yX7_rateOf cX7_rateOf 2 (some .int) 2 := ⟨wm_15_3, wm_1_2, wm_15_4, by decide +kernel, by decide +kernel, by decide +kernel⟩
end
section
theorem jinc (i : Nat) : nI i + Int32.ofInt 1 = nI (i + 1) := nI_1 i
theorem jB_nar (p : Prop) [Decidable p] : narrow .boolean (.int (jB p)) = .int (jB p) := by
  unfold jB; split <;> rfl
theorem jB_fit (p : Prop) [Decidable p] : fits .boolean (.int (jB p)) = true := by
  unfold jB; split <;> rfl
theorem jB_t {p : Prop} [Decidable p] (h : p) : jB p = 1 := if_pos h
theorem jB_f {p : Prop} [Decidable p] (h : ¬ p) : jB p = 0 := if_neg h
theorem jB_cg {p q : Prop} [Decidable p] [Decidable q] (h : p ↔ q) : jB p = jB q := by
  by_cases hp : p
  · rw [jB_t hp, jB_t (h.mp hp)]
  · rw [jB_f hp, jB_f (fun c => hp (h.mpr c))]
/-- a sum from z on: z + f 0 + .. + f (n - 1) -/
def jSum (f : Nat → Int32) (z : Int32) : Nat → Int32
  | 0 => z
  | n + 1 => jSum f z n + f n
theorem jset_self {α : Type} {l : List α} {p : Nat} {v : α} (h : l[p]? = some v) : l.set p v = l := by
  apply List.ext_getElem?
  intro i
  by_cases e : i = p
  · subst e
    rw [List.getElem?_set_self (List.getElem?_eq_some_iff.mp h).1, h]
  · rw [List.getElem?_set_ne (Ne.symm e)]
section JS
variable {l : Launch} {D : va_G} {a : Nat → Nat} {g : Nat → ClassId} {G : jG} {own : String} {cc : ByteArray} {nL fr lo : Nat} {M : jM} {L : jL} {pc : Nat} {loc loc' : List (Nat × Value)} {rest : List Value}
theorem J_seti {k : Nat} {x y : Int32} {st : List Value} (p : Nat) (hp : loc[p]? = some (k, .int x)) (h : x = y) (hl : loc.set p (k, .int y) = loc') (kk : J l D a g G nL M L pc loc' st) : J l D a g G nL M L pc loc st := by
  subst h
  rw [jset_self hp] at hl
  subst hl
  exact kk
theorem J_setl {k : Nat} {x y : Int64} {st : List Value} (p : Nat) (hp : loc[p]? = some (k, .long x)) (h : x = y) (hl : loc.set p (k, .long y) = loc') (kk : J l D a g G nL M L pc loc' st) : J l D a g G nL M L pc loc st := by
  subst h
  rw [jset_self hp] at hl
  subst hl
  exact kk
theorem J_ifK_eq (hX : jX D a g G own cc nL fr lo) {x y : Int64} {off : Int} (tgt : Nat) (hd : decode cc pc = .ok (.ifCond .eq off, 3)) (ht : (pc : Int) + off = (tgt : Int)) (kt : x = y → J l D a g G nL M L tgt loc rest) (kf : ¬ x = y → J l D a g G nL M L (pc + 3) loc rest) : J l D a g G nL M L pc loc (.int (lg_cmp x y) :: rest) :=
  J_if_eq hX tgt hd ht (fun h => kt ((lg_cmp_eq x y).mp h)) (fun h => kf (fun q => h ((lg_cmp_eq x y).mpr q)))
theorem J_ifK_ne (hX : jX D a g G own cc nL fr lo) {x y : Int64} {off : Int} (tgt : Nat) (hd : decode cc pc = .ok (.ifCond .ne off, 3)) (ht : (pc : Int) + off = (tgt : Int)) (kt : ¬ x = y → J l D a g G nL M L tgt loc rest) (kf : x = y → J l D a g G nL M L (pc + 3) loc rest) : J l D a g G nL M L pc loc (.int (lg_cmp x y) :: rest) :=
  J_if_ne hX tgt hd ht (fun h => kt (fun q => h ((lg_cmp_eq x y).mpr q))) (fun h => kf (by first | exact (lg_cmp_eq x y).mp h | exact (lg_cmp_eq x y).mp (Classical.not_not.mp h)))
theorem J_ifK_lt (hX : jX D a g G own cc nL fr lo) {x y : Int64} {off : Int} (tgt : Nat) (hd : decode cc pc = .ok (.ifCond .lt off, 3)) (ht : (pc : Int) + off = (tgt : Int)) (kt : x < y → J l D a g G nL M L tgt loc rest) (kf : ¬ x < y → J l D a g G nL M L (pc + 3) loc rest) : J l D a g G nL M L pc loc (.int (lg_cmp x y) :: rest) :=
  J_if_lt hX tgt hd ht (fun h => kt ((lg_cmp_lt x y).mp h)) (fun h => kf (fun q => h ((lg_cmp_lt x y).mpr q)))
theorem J_ifK_ge (hX : jX D a g G own cc nL fr lo) {x y : Int64} {off : Int} (tgt : Nat) (hd : decode cc pc = .ok (.ifCond .ge off, 3)) (ht : (pc : Int) + off = (tgt : Int)) (kt : y ≤ x → J l D a g G nL M L tgt loc rest) (kf : ¬ y ≤ x → J l D a g G nL M L (pc + 3) loc rest) : J l D a g G nL M L pc loc (.int (lg_cmp x y) :: rest) :=
  J_if_ge hX tgt hd ht (fun h => kt ((lg_cmp_ge x y).mp h)) (fun h => kf (fun q => h ((lg_cmp_ge x y).mpr q)))
theorem J_ifK_gt (hX : jX D a g G own cc nL fr lo) {x y : Int64} {off : Int} (tgt : Nat) (hd : decode cc pc = .ok (.ifCond .gt off, 3)) (ht : (pc : Int) + off = (tgt : Int)) (kt : y < x → J l D a g G nL M L tgt loc rest) (kf : ¬ y < x → J l D a g G nL M L (pc + 3) loc rest) : J l D a g G nL M L pc loc (.int (lg_cmp x y) :: rest) :=
  J_if_gt hX tgt hd ht (fun h => kt ((lg_cmp_gt x y).mp h)) (fun h => kf (fun q => h ((lg_cmp_gt x y).mpr q)))
theorem J_ifK_le (hX : jX D a g G own cc nL fr lo) {x y : Int64} {off : Int} (tgt : Nat) (hd : decode cc pc = .ok (.ifCond .le off, 3)) (ht : (pc : Int) + off = (tgt : Int)) (kt : x ≤ y → J l D a g G nL M L tgt loc rest) (kf : ¬ x ≤ y → J l D a g G nL M L (pc + 3) loc rest) : J l D a g G nL M L pc loc (.int (lg_cmp x y) :: rest) :=
  J_if_le hX tgt hd ht (fun h => kt ((lg_cmp_le x y).mp h)) (fun h => kf (fun q => h ((lg_cmp_le x y).mpr q)))
end JS
end
section
set_option maxHeartbeats 4000000 in
set_option maxRecDepth 10000 in
theorem c_X7_within (l : Launch) (D : va_G) (a : Nat → Nat) (g : Nat → ClassId) (M : jM) (L : jL) (v x y : Int32)  : jK l D a g yX7_within cX7_within 3 (some .boolean) 0 0 [.int v, .int x, .int y] M L (some (.int (jB (x.toInt ≤ v.toInt ∧ v.toInt ≤ y.toInt)))) M L := by
  refine jMeth (by decide) (Nat.le_of_ble_eq_true rfl) ?_
  intro G hX hZ
  refine J_cg (loc' := [(0, .int v), (1, .int x), (2, .int y)]) rfl rfl rfl rfl ?_
  refine J_iload_n hX 0 dX7_within_0 rfl ?_
  refine J_iload_n hX 1 dX7_within_1 rfl ?_
  refine J_icmp_lt hX 14 dX7_within_2 (by decide) (fun h2 => ?_) (fun h2 => ?_)
  · skip
    refine J_iconst (v := 0) hX dX7_within_14 (by decide) ?_
    exact J_ret hX hZ dX7_within_15 rfl rfl ⟨by simp only [Int32.lt_iff_toInt_lt, Int32.le_iff_toInt_le] at h2; first | rw [jB_t (by omega)] | rw [jB_f (by omega)], rfl, rfl⟩
  · skip
    refine J_iload_n hX 0 dX7_within_5 rfl ?_
    refine J_iload_n hX 2 dX7_within_6 rfl ?_
    refine J_icmp_gt hX 14 dX7_within_7 (by decide) (fun h7 => ?_) (fun h7 => ?_)
    · skip
      refine J_iconst (v := 0) hX dX7_within_14 (by decide) ?_
      exact J_ret hX hZ dX7_within_15 rfl rfl ⟨by simp only [Int32.lt_iff_toInt_lt, Int32.le_iff_toInt_le] at h2 h7; first | rw [jB_t (by omega)] | rw [jB_f (by omega)], rfl, rfl⟩
    · skip
      refine J_iconst (v := 1) hX dX7_within_10 (by decide) ?_
      refine J_goto hX 15 dX7_within_11 (by decide) ?_
      exact J_ret hX hZ dX7_within_15 rfl rfl ⟨by simp only [Int32.lt_iff_toInt_lt, Int32.le_iff_toInt_le] at h2 h7; first | rw [jB_t (by omega)] | rw [jB_f (by omega)], rfl, rfl⟩
set_option maxHeartbeats 4000000 in
set_option maxRecDepth 10000 in
theorem c_X7_isOne (l : Launch) (D : va_G) (a : Nat → Nat) (g : Nat → ClassId) (M : jM) (L : jL) (v : Int32)  : jK l D a g yX7_isOne cX7_isOne 1 (some .boolean) 1 22 [.int v] M L (some (.int (jB (0 ≤ v.toInt ∧ v.toInt ≤ 5)))) M L := by
  refine jMeth (by decide) (Nat.le_of_ble_eq_true rfl) ?_
  intro G hX hZ
  refine J_cg (loc' := [(0, .int v)]) rfl rfl rfl rfl ?_
  refine J_iload_n hX 0 dX7_isOne_0 rfl ?_
  refine J_iconst (v := 0) hX dX7_isOne_1 (by decide) ?_
  refine J_iconst (v := 5) hX dX7_isOne_2 (by decide) ?_
  refine J_callS hX [.int v, .int 0, .int 5] [] dX7_isOne_3 (c_X7_within l D a g M L v 0 5) lk_X7_62 rfl rfl (Nat.le_of_ble_eq_true rfl) (Nat.le_of_ble_eq_true rfl) (Nat.le_of_ble_eq_true rfl) (J_eq (st := [.int (jB (0 ≤ v.toInt ∧ v.toInt ≤ 5))]) rfl ?_)
  exact J_ret hX hZ dX7_isOne_6 rfl (jB_nar _) ⟨rfl, rfl, rfl⟩
def x_rateOf (land notes : Int32) : Int32 := if notes ≤ 0 then 100 else if 100 * land / notes < 100 then 100 * land / notes else 100
set_option maxHeartbeats 4000000 in
set_option maxRecDepth 10000 in
theorem c_X7_rateOf (l : Launch) (D : va_G) (a : Nat → Nat) (g : Nat → ClassId) (M : jM) (L : jL) (x y : Int32)  : jK l D a g yX7_rateOf cX7_rateOf 2 (some .int) 1 30 [.int x, .int y] M L (some (.int (x_rateOf x y))) M L := by
  refine jMeth (by decide) (Nat.le_of_ble_eq_true rfl) ?_
  intro G hX hZ
  refine J_cg (loc' := [(0, .int x), (1, .int y)]) rfl rfl rfl rfl ?_
  refine J_iload_n hX 1 dX7_rateOf_0 rfl ?_
  refine J_if_gt hX 9 dX7_rateOf_1 (by decide) (fun h1 => ?_) (fun h1 => ?_)
  · skip
    refine J_bipush (v := 100) hX dX7_rateOf_9 (by decide) ?_
    refine J_bipush (v := 100) hX dX7_rateOf_11 (by decide) ?_
    refine J_iload_n hX 0 dX7_rateOf_13 rfl ?_
    refine J_imul hX dX7_rateOf_14 ?_
    refine J_iload_n hX 1 dX7_rateOf_15 rfl ?_
    refine J_idiv hX dX7_rateOf_16 (by intro e; subst e; exact absurd h1 (by decide)) ?_
    refine J_mmin hX dX7_rateOf_17 wm_15_5 wm_15_6 wm_15_7 wm_15_8 (Nat.le_of_ble_eq_true rfl) (Nat.le_of_ble_eq_true rfl) ?_
    exact J_ret hX hZ dX7_rateOf_20 rfl rfl ⟨by first | rw [x_rateOf, if_pos (Int32.not_lt.mp h1)] | rw [x_rateOf, if_neg (Int32.not_le.mpr h1)], rfl, rfl⟩
  · skip
    refine J_bipush (v := 100) hX dX7_rateOf_4 (by decide) ?_
    refine J_goto hX 20 dX7_rateOf_6 (by decide) ?_
    exact J_ret hX hZ dX7_rateOf_20 rfl rfl ⟨by first | rw [x_rateOf, if_pos (Int32.not_lt.mp h1)] | rw [x_rateOf, if_neg (Int32.not_le.mpr h1)], rfl, rfl⟩
def x_notes (M : jM) (q : Nat) : Int32 := jSum (M (q + 1)) (M q 5) 6
set_option maxHeartbeats 4000000 in
set_option maxRecDepth 10000 in
theorem c_X2_notes (l : Launch) (D : va_G) (a : Nat → Nat) (g : Nat → ClassId) (M : jM) (L : jL) (q : Nat) (hq : jRl q)  : jK l D a g yX2_notes cX2_notes 3 (some .int) 0 0 [.ref (a q)] M L (some (.int (x_notes M q))) M L := by
  refine jMeth (by decide) (Nat.le_of_ble_eq_true rfl) ?_
  intro G hX hZ
  refine J_cg (loc' := [(0, .ref (a q))]) rfl rfl rfl rfl ?_
  refine J_aload_n hX 0 dX2_notes_0 rfl ?_
  refine J_geti hX q 5 dX2_notes_1 hq.o rfl rfl (by decide) inlX2 wm_13_0 ?_
  refine J_istore_n (loc' := [(1, .int (M q 5)), (0, .ref (a q))]) hX dX2_notes_4 (by decide) rfl ?_
  refine J_iconst (v := 0) hX dX2_notes_5 (by decide) ?_
  refine J_istore_n (loc' := [(2, .int 0), (1, .int (M q 5)), (0, .ref (a q))]) hX dX2_notes_6 (by decide) rfl ?_
  have key7 : ∀ (n : Nat) (i : Nat), 6 - i < n → i ≤ 6 → J l D a g G 3 M L 7 [(0, .ref (a q)), (1, .int (jSum (M (q + 1)) (M q 5) i)), (2, .int (nI i))] [] := by
    intro n
    induction n with
    | zero => intro i hmu; exact absurd hmu (Nat.not_lt_zero _)
    | succ n ih7 =>
      intro i hmu7 hi
      refine J_iload_n hX 2 dX2_notes_7 rfl ?_
      refine J_bipush (v := 6) hX dX2_notes_8 (by decide) ?_
      refine J_cmpN_ge hX 28 i 6 dX2_notes_10 (by decide) rfl rfl (by omega) (by omega) (fun h10 => ?_) (fun h10 => ?_)
      · skip
        refine J_iload_n hX 1 dX2_notes_28 rfl ?_
        exact J_ret hX hZ dX2_notes_29 rfl rfl ⟨by rw [show i = 6 by omega]; rfl, rfl, rfl⟩
      · skip
        refine J_iload_n hX 1 dX2_notes_13 rfl ?_
        refine J_aload_n hX 0 dX2_notes_14 rfl ?_
        refine J_getr hX q 0 dX2_notes_15 hq.o rfl rfl (by decide) inlX2 wm_2_21 ?_
        refine J_iload_n hX 2 dX2_notes_18 rfl ?_
        refine J_iald hX (q + 1) i dX2_notes_19 hq.c1 rfl (by omega) (by omega) ?_
        refine J_iadd hX dX2_notes_20 ?_
        refine J_istore_n (loc' := [(1, .int ((jSum (M (q + 1)) (M q 5) i) + (M (q + 1) i))), (0, .ref (a q)), (2, .int (nI i))]) hX dX2_notes_21 (by decide) rfl ?_
        refine J_iinc (v := nI (i + 1)) (loc' := [(2, .int (nI (i + 1))), (1, .int ((jSum (M (q + 1)) (M q 5) i) + (M (q + 1) i))), (0, .ref (a q))]) hX 2 dX2_notes_22 rfl (jinc i) (by decide) rfl ?_
        refine J_goto hX 7 dX2_notes_25 (by decide) ?_
        refine J_sub (loc' := [(0, .ref (a q)), (1, .int ((jSum (M (q + 1)) (M q 5) i) + (M (q + 1) i))), (2, .int (nI (i + 1)))]) [2, 1, 0] rfl ?_
        refine J_seti (y := jSum (M (q + 1)) (M q 5) (i + 1)) (loc' := [(0, .ref (a q)), (1, .int (jSum (M (q + 1)) (M q 5) (i + 1))), (2, .int (nI (i + 1)))]) 1 rfl rfl rfl ?_
        exact ih7  (i + 1) (by omega) (by omega)
  refine J_sub (loc' := [(0, .ref (a q)), (1, .int (M q 5)), (2, .int 0)]) [2, 1, 0] rfl ?_
  refine J_seti (y := jSum (M (q + 1)) (M q 5) 0) (loc' := [(0, .ref (a q)), (1, .int (jSum (M (q + 1)) (M q 5) 0)), (2, .int 0)]) 1 rfl rfl rfl ?_
  refine J_seti (y := nI 0) (loc' := [(0, .ref (a q)), (1, .int (jSum (M (q + 1)) (M q 5) 0)), (2, .int (nI 0))]) 2 rfl rfl rfl ?_
  exact key7 _ 0 (Nat.lt_succ_self _) (by omega)
def x_landF (M : jM) (q : Nat) : Nat → Int32 := fun i => if M (q + 5) i = -1 then M (q + 4) i else 0
def x_land (M : jM) (q : Nat) : Int32 := jSum (x_landF M q) 0 8
set_option maxHeartbeats 4000000 in
set_option maxRecDepth 10000 in
theorem c_X2_land (l : Launch) (D : va_G) (a : Nat → Nat) (g : Nat → ClassId) (M : jM) (L : jL) (q : Nat) (hq : jRl q)  : jK l D a g yX2_land cX2_land 3 (some .int) 0 0 [.ref (a q)] M L (some (.int (x_land M q))) M L := by
  refine jMeth (by decide) (Nat.le_of_ble_eq_true rfl) ?_
  intro G hX hZ
  refine J_cg (loc' := [(0, .ref (a q))]) rfl rfl rfl rfl ?_
  refine J_iconst (v := 0) hX dX2_land_0 (by decide) ?_
  refine J_istore_n (loc' := [(1, .int 0), (0, .ref (a q))]) hX dX2_land_1 (by decide) rfl ?_
  refine J_iconst (v := 0) hX dX2_land_2 (by decide) ?_
  refine J_istore_n (loc' := [(2, .int 0), (1, .int 0), (0, .ref (a q))]) hX dX2_land_3 (by decide) rfl ?_
  have key4 : ∀ (n : Nat) (i : Nat), 8 - i < n → i ≤ 8 → J l D a g G 3 M L 4 [(0, .ref (a q)), (1, .int (jSum (x_landF M q) 0 i)), (2, .int (nI i))] [] := by
    intro n
    induction n with
    | zero => intro i hmu; exact absurd hmu (Nat.not_lt_zero _)
    | succ n ih4 =>
      intro i hmu4 hi
      refine J_iload_n hX 2 dX2_land_4 rfl ?_
      refine J_bipush (v := 8) hX dX2_land_5 (by decide) ?_
      refine J_cmpN_ge hX 35 i 8 dX2_land_7 (by decide) rfl rfl (by omega) (by omega) (fun h7 => ?_) (fun h7 => ?_)
      · skip
        refine J_iload_n hX 1 dX2_land_35 rfl ?_
        exact J_ret hX hZ dX2_land_36 rfl rfl ⟨by rw [show i = 8 by omega]; rfl, rfl, rfl⟩
      · skip
        refine J_aload_n hX 0 dX2_land_10 rfl ?_
        refine J_getr hX q 4 dX2_land_11 hq.o rfl rfl (by decide) inlX2 wm_3_2 ?_
        refine J_iload_n hX 2 dX2_land_14 rfl ?_
        refine J_iald hX (q + 5) i dX2_land_15 hq.c5 rfl (by omega) (by omega) ?_
        refine J_iconst (v := (-1)) hX dX2_land_16 (by decide) ?_
        refine J_icmp_ne hX 29 dX2_land_17 (by decide) (fun h17 => ?_) (fun h17 => ?_)
        · skip
          refine J_iinc (v := nI (i + 1)) (loc' := [(2, .int (nI (i + 1))), (0, .ref (a q)), (1, .int (jSum (x_landF M q) 0 i))]) hX 2 dX2_land_29 rfl (jinc i) (by decide) rfl ?_
          refine J_goto hX 4 dX2_land_32 (by decide) ?_
          refine J_sub (loc' := [(0, .ref (a q)), (1, .int (jSum (x_landF M q) 0 i)), (2, .int (nI (i + 1)))]) [1, 2, 0] rfl ?_
          refine J_seti (y := jSum (x_landF M q) 0 (i + 1)) (loc' := [(0, .ref (a q)), (1, .int (jSum (x_landF M q) 0 (i + 1))), (2, .int (nI (i + 1)))]) 1 rfl (by simp [jSum, x_landF, h17]) rfl ?_
          exact ih4  (i + 1) (by omega) (by omega)
        · skip
          refine J_iload_n hX 1 dX2_land_20 rfl ?_
          refine J_aload_n hX 0 dX2_land_21 rfl ?_
          refine J_getr hX q 3 dX2_land_22 hq.o rfl rfl (by decide) inlX2 wm_3_1 ?_
          refine J_iload_n hX 2 dX2_land_25 rfl ?_
          refine J_iald hX (q + 4) i dX2_land_26 hq.c4 rfl (by omega) (by omega) ?_
          refine J_iadd hX dX2_land_27 ?_
          refine J_istore_n (loc' := [(1, .int ((jSum (x_landF M q) 0 i) + (M (q + 4) i))), (0, .ref (a q)), (2, .int (nI i))]) hX dX2_land_28 (by decide) rfl ?_
          refine J_iinc (v := nI (i + 1)) (loc' := [(2, .int (nI (i + 1))), (1, .int ((jSum (x_landF M q) 0 i) + (M (q + 4) i))), (0, .ref (a q))]) hX 2 dX2_land_29 rfl (jinc i) (by decide) rfl ?_
          refine J_goto hX 4 dX2_land_32 (by decide) ?_
          refine J_sub (loc' := [(0, .ref (a q)), (1, .int ((jSum (x_landF M q) 0 i) + (M (q + 4) i))), (2, .int (nI (i + 1)))]) [2, 1, 0] rfl ?_
          refine J_seti (y := jSum (x_landF M q) 0 (i + 1)) (loc' := [(0, .ref (a q)), (1, .int (jSum (x_landF M q) 0 (i + 1))), (2, .int (nI (i + 1)))]) 1 rfl (by simp [jSum, x_landF, h17]) rfl ?_
          exact ih4  (i + 1) (by omega) (by omega)
  refine J_sub (loc' := [(0, .ref (a q)), (1, .int 0), (2, .int 0)]) [2, 1, 0] rfl ?_
  refine J_seti (y := jSum (x_landF M q) 0 0) (loc' := [(0, .ref (a q)), (1, .int (jSum (x_landF M q) 0 0)), (2, .int 0)]) 1 rfl rfl rfl ?_
  refine J_seti (y := nI 0) (loc' := [(0, .ref (a q)), (1, .int (jSum (x_landF M q) 0 0)), (2, .int (nI 0))]) 2 rfl rfl rfl ?_
  exact key4 _ 0 (Nat.lt_succ_self _) (by omega)
def x_rate (M : jM) (q : Nat) : Int32 := x_rateOf (x_land M q) (x_notes M q)
set_option maxHeartbeats 4000000 in
set_option maxRecDepth 10000 in
theorem c_X2_rate (l : Launch) (D : va_G) (a : Nat → Nat) (g : Nat → ClassId) (M : jM) (L : jL) (q : Nat) (hq : jRl q)  : jK l D a g yX2_rate cX2_rate 1 (some .int) 2 51 [.ref (a q)] M L (some (.int (x_rate M q))) M L := by
  refine jMeth (by decide) (Nat.le_of_ble_eq_true rfl) ?_
  intro G hX hZ
  refine J_cg (loc' := [(0, .ref (a q))]) rfl rfl rfl rfl ?_
  refine J_aload_n hX 0 dX2_rate_0 rfl ?_
  refine J_callV hX q [] [] dX2_rate_1 (c_X2_land l D a g M L q hq) lk_X2_48 hq.o rfl rfl rfl (Nat.le_of_ble_eq_true rfl) (Nat.le_of_ble_eq_true rfl) (Nat.le_of_ble_eq_true rfl) (J_eq (st := [.int (x_land M q)]) rfl ?_)
  refine J_aload_n hX 0 dX2_rate_4 rfl ?_
  refine J_callV hX q [] [.int (x_land M q)] dX2_rate_5 (c_X2_notes l D a g M L q hq) lk_X2_52 hq.o rfl rfl rfl (Nat.le_of_ble_eq_true rfl) (Nat.le_of_ble_eq_true rfl) (Nat.le_of_ble_eq_true rfl) (J_eq (st := [.int (x_notes M q), .int (x_land M q)]) rfl ?_)
  refine J_callN hX [.int (x_land M q), .int (x_notes M q)] [] dX2_rate_8 (c_X7_rateOf l D a g M L (x_land M q) (x_notes M q)) lk_X2_55 hX.2.2.2.2.2.2.1.2 rfl rfl (Nat.le_of_ble_eq_true rfl) (Nat.le_of_ble_eq_true rfl) (Nat.le_of_ble_eq_true rfl) (J_eq (st := [.int (x_rateOf (x_land M q) (x_notes M q))]) rfl ?_)
  exact J_ret hX hZ dX2_rate_11 rfl rfl ⟨rfl, rfl, rfl⟩
def x_priceF (M : jM) (q : Nat) (s : Int32) : Nat → Int32 := fun i => if (s >>> (nI i &&& 31)) &&& 1 = 1 then M (q + 4) i else 0
def x_priceOf (M : jM) (q : Nat) (s : Int32) : Int32 := jSum (x_priceF M q s) 0 8
set_option maxHeartbeats 4000000 in
set_option maxRecDepth 10000 in
theorem c_X2_priceOf (l : Launch) (D : va_G) (a : Nat → Nat) (g : Nat → ClassId) (M : jM) (L : jL) (q : Nat) (hq : jRl q) (s : Int32)  : jK l D a g yX2_priceOf cX2_priceOf 4 (some .int) 0 0 [.ref (a q), .int s] M L (some (.int (x_priceOf M q s))) M L := by
  refine jMeth (by decide) (Nat.le_of_ble_eq_true rfl) ?_
  intro G hX hZ
  refine J_cg (loc' := [(0, .ref (a q)), (1, .int s)]) rfl rfl rfl rfl ?_
  refine J_iconst (v := 0) hX dX2_priceOf_0 (by decide) ?_
  refine J_istore_n (loc' := [(2, .int 0), (0, .ref (a q)), (1, .int s)]) hX dX2_priceOf_1 (by decide) rfl ?_
  refine J_iconst (v := 0) hX dX2_priceOf_2 (by decide) ?_
  refine J_istore_n (loc' := [(3, .int 0), (2, .int 0), (0, .ref (a q)), (1, .int s)]) hX dX2_priceOf_3 (by decide) rfl ?_
  have key4 : ∀ (n : Nat) (i : Nat), 8 - i < n → i ≤ 8 → J l D a g G 4 M L 4 [(0, .ref (a q)), (1, .int s), (2, .int (jSum (x_priceF M q s) 0 i)), (3, .int (nI i))] [] := by
    intro n
    induction n with
    | zero => intro i hmu; exact absurd hmu (Nat.not_lt_zero _)
    | succ n ih4 =>
      intro i hmu4 hi
      refine J_iload_n hX 3 dX2_priceOf_4 rfl ?_
      refine J_bipush (v := 8) hX dX2_priceOf_5 (by decide) ?_
      refine J_cmpN_ge hX 34 i 8 dX2_priceOf_7 (by decide) rfl rfl (by omega) (by omega) (fun h7 => ?_) (fun h7 => ?_)
      · skip
        refine J_iload_n hX 2 dX2_priceOf_34 rfl ?_
        exact J_ret hX hZ dX2_priceOf_35 rfl rfl ⟨by rw [show i = 8 by omega]; rfl, rfl, rfl⟩
      · skip
        refine J_iload_n hX 1 dX2_priceOf_10 rfl ?_
        refine J_iload_n hX 3 dX2_priceOf_11 rfl ?_
        refine J_ishr hX dX2_priceOf_12 ?_
        refine J_iconst (v := 1) hX dX2_priceOf_13 (by decide) ?_
        refine J_iand hX dX2_priceOf_14 ?_
        refine J_iconst (v := 1) hX dX2_priceOf_15 (by decide) ?_
        refine J_icmp_ne hX 28 dX2_priceOf_16 (by decide) (fun h16 => ?_) (fun h16 => ?_)
        · skip
          refine J_iinc (v := nI (i + 1)) (loc' := [(3, .int (nI (i + 1))), (0, .ref (a q)), (1, .int s), (2, .int (jSum (x_priceF M q s) 0 i))]) hX 3 dX2_priceOf_28 rfl (jinc i) (by decide) rfl ?_
          refine J_goto hX 4 dX2_priceOf_31 (by decide) ?_
          refine J_sub (loc' := [(0, .ref (a q)), (1, .int s), (2, .int (jSum (x_priceF M q s) 0 i)), (3, .int (nI (i + 1)))]) [1, 2, 3, 0] rfl ?_
          refine J_seti (y := jSum (x_priceF M q s) 0 (i + 1)) (loc' := [(0, .ref (a q)), (1, .int s), (2, .int (jSum (x_priceF M q s) 0 (i + 1))), (3, .int (nI (i + 1)))]) 2 rfl (by simp [jSum, x_priceF, h16]) rfl ?_
          exact ih4  (i + 1) (by omega) (by omega)
        · skip
          refine J_iload_n hX 2 dX2_priceOf_19 rfl ?_
          refine J_aload_n hX 0 dX2_priceOf_20 rfl ?_
          refine J_getr hX q 3 dX2_priceOf_21 hq.o rfl rfl (by decide) inlX2 wm_3_1 ?_
          refine J_iload_n hX 3 dX2_priceOf_24 rfl ?_
          refine J_iald hX (q + 4) i dX2_priceOf_25 hq.c4 rfl (by omega) (by omega) ?_
          refine J_iadd hX dX2_priceOf_26 ?_
          refine J_istore_n (loc' := [(2, .int ((jSum (x_priceF M q s) 0 i) + (M (q + 4) i))), (0, .ref (a q)), (1, .int s), (3, .int (nI i))]) hX dX2_priceOf_27 (by decide) rfl ?_
          refine J_iinc (v := nI (i + 1)) (loc' := [(3, .int (nI (i + 1))), (2, .int ((jSum (x_priceF M q s) 0 i) + (M (q + 4) i))), (0, .ref (a q)), (1, .int s)]) hX 3 dX2_priceOf_28 rfl (jinc i) (by decide) rfl ?_
          refine J_goto hX 4 dX2_priceOf_31 (by decide) ?_
          refine J_sub (loc' := [(0, .ref (a q)), (1, .int s), (2, .int ((jSum (x_priceF M q s) 0 i) + (M (q + 4) i))), (3, .int (nI (i + 1)))]) [2, 3, 1, 0] rfl ?_
          refine J_seti (y := jSum (x_priceF M q s) 0 (i + 1)) (loc' := [(0, .ref (a q)), (1, .int s), (2, .int (jSum (x_priceF M q s) 0 (i + 1))), (3, .int (nI (i + 1)))]) 2 rfl (by simp [jSum, x_priceF, h16]) rfl ?_
          exact ih4  (i + 1) (by omega) (by omega)
  refine J_sub (loc' := [(0, .ref (a q)), (1, .int s), (2, .int 0), (3, .int 0)]) [2, 3, 1, 0] rfl ?_
  refine J_seti (y := jSum (x_priceF M q s) 0 0) (loc' := [(0, .ref (a q)), (1, .int s), (2, .int (jSum (x_priceF M q s) 0 0)), (3, .int 0)]) 2 rfl rfl rfl ?_
  refine J_seti (y := nI 0) (loc' := [(0, .ref (a q)), (1, .int s), (2, .int (jSum (x_priceF M q s) 0 0)), (3, .int (nI 0))]) 3 rfl rfl rfl ?_
  exact key4 _ 0 (Nat.lt_succ_self _) (by omega)
def x_lotsN (f : Nat → Int32) (w : Int32) : Nat → Int32
  | 0 => 0
  | n + 1 => if f n = w then x_lotsN f w n ||| ((1 : Int32) <<< (nI n &&& 31)) else x_lotsN f w n
def x_lotsOf (M : jM) (q : Nat) (w : Int32) : Int32 := x_lotsN (M (q + 5)) w 8
set_option maxHeartbeats 4000000 in
set_option maxRecDepth 10000 in
theorem c_X2_lotsOf (l : Launch) (D : va_G) (a : Nat → Nat) (g : Nat → ClassId) (M : jM) (L : jL) (q : Nat) (hq : jRl q) (s : Int32)  : jK l D a g yX2_lotsOf cX2_lotsOf 4 (some .int) 0 0 [.ref (a q), .int s] M L (some (.int (x_lotsOf M q s))) M L := by
  refine jMeth (by decide) (Nat.le_of_ble_eq_true rfl) ?_
  intro G hX hZ
  refine J_cg (loc' := [(0, .ref (a q)), (1, .int s)]) rfl rfl rfl rfl ?_
  refine J_iconst (v := 0) hX dX2_lotsOf_0 (by decide) ?_
  refine J_istore_n (loc' := [(2, .int 0), (0, .ref (a q)), (1, .int s)]) hX dX2_lotsOf_1 (by decide) rfl ?_
  refine J_iconst (v := 0) hX dX2_lotsOf_2 (by decide) ?_
  refine J_istore_n (loc' := [(3, .int 0), (2, .int 0), (0, .ref (a q)), (1, .int s)]) hX dX2_lotsOf_3 (by decide) rfl ?_
  have key4 : ∀ (n : Nat) (i : Nat), 8 - i < n → i ≤ 8 → J l D a g G 4 M L 4 [(0, .ref (a q)), (1, .int s), (2, .int (x_lotsN (M (q + 5)) s i)), (3, .int (nI i))] [] := by
    intro n
    induction n with
    | zero => intro i hmu; exact absurd hmu (Nat.not_lt_zero _)
    | succ n ih4 =>
      intro i hmu4 hi
      refine J_iload_n hX 3 dX2_lotsOf_4 rfl ?_
      refine J_bipush (v := 8) hX dX2_lotsOf_5 (by decide) ?_
      refine J_cmpN_ge hX 32 i 8 dX2_lotsOf_7 (by decide) rfl rfl (by omega) (by omega) (fun h7 => ?_) (fun h7 => ?_)
      · skip
        refine J_iload_n hX 2 dX2_lotsOf_32 rfl ?_
        exact J_ret hX hZ dX2_lotsOf_33 rfl rfl ⟨by rw [show i = 8 by omega]; rfl, rfl, rfl⟩
      · skip
        refine J_aload_n hX 0 dX2_lotsOf_10 rfl ?_
        refine J_getr hX q 4 dX2_lotsOf_11 hq.o rfl rfl (by decide) inlX2 wm_3_2 ?_
        refine J_iload_n hX 3 dX2_lotsOf_14 rfl ?_
        refine J_iald hX (q + 5) i dX2_lotsOf_15 hq.c5 rfl (by omega) (by omega) ?_
        refine J_iload_n hX 1 dX2_lotsOf_16 rfl ?_
        refine J_icmp_ne hX 26 dX2_lotsOf_17 (by decide) (fun h17 => ?_) (fun h17 => ?_)
        · skip
          refine J_iinc (v := nI (i + 1)) (loc' := [(3, .int (nI (i + 1))), (0, .ref (a q)), (1, .int s), (2, .int (x_lotsN (M (q + 5)) s i))]) hX 3 dX2_lotsOf_26 rfl (jinc i) (by decide) rfl ?_
          refine J_goto hX 4 dX2_lotsOf_29 (by decide) ?_
          refine J_sub (loc' := [(0, .ref (a q)), (1, .int s), (2, .int (x_lotsN (M (q + 5)) s i)), (3, .int (nI (i + 1)))]) [1, 2, 3, 0] rfl ?_
          refine J_seti (y := x_lotsN (M (q + 5)) s (i + 1)) (loc' := [(0, .ref (a q)), (1, .int s), (2, .int (x_lotsN (M (q + 5)) s (i + 1))), (3, .int (nI (i + 1)))]) 2 rfl (by simp [x_lotsN, h17]) rfl ?_
          exact ih4  (i + 1) (by omega) (by omega)
        · skip
          refine J_iload_n hX 2 dX2_lotsOf_20 rfl ?_
          refine J_iconst (v := 1) hX dX2_lotsOf_21 (by decide) ?_
          refine J_iload_n hX 3 dX2_lotsOf_22 rfl ?_
          refine J_ishl hX dX2_lotsOf_23 ?_
          refine J_ior hX dX2_lotsOf_24 ?_
          refine J_istore_n (loc' := [(2, .int ((x_lotsN (M (q + 5)) s i) ||| (1 <<< ((nI i) &&& 31)))), (0, .ref (a q)), (1, .int s), (3, .int (nI i))]) hX dX2_lotsOf_25 (by decide) rfl ?_
          refine J_iinc (v := nI (i + 1)) (loc' := [(3, .int (nI (i + 1))), (2, .int ((x_lotsN (M (q + 5)) s i) ||| (1 <<< ((nI i) &&& 31)))), (0, .ref (a q)), (1, .int s)]) hX 3 dX2_lotsOf_26 rfl (jinc i) (by decide) rfl ?_
          refine J_goto hX 4 dX2_lotsOf_29 (by decide) ?_
          refine J_sub (loc' := [(0, .ref (a q)), (1, .int s), (2, .int ((x_lotsN (M (q + 5)) s i) ||| (1 <<< ((nI i) &&& 31)))), (3, .int (nI (i + 1)))]) [2, 3, 1, 0] rfl ?_
          refine J_seti (y := x_lotsN (M (q + 5)) s (i + 1)) (loc' := [(0, .ref (a q)), (1, .int s), (2, .int (x_lotsN (M (q + 5)) s (i + 1))), (3, .int (nI (i + 1)))]) 2 rfl (by simp [x_lotsN, h17]) rfl ?_
          exact ih4  (i + 1) (by omega) (by omega)
  refine J_sub (loc' := [(0, .ref (a q)), (1, .int s), (2, .int 0), (3, .int 0)]) [2, 3, 1, 0] rfl ?_
  refine J_seti (y := x_lotsN (M (q + 5)) s 0) (loc' := [(0, .ref (a q)), (1, .int s), (2, .int (x_lotsN (M (q + 5)) s 0)), (3, .int 0)]) 2 rfl rfl rfl ?_
  refine J_seti (y := nI 0) (loc' := [(0, .ref (a q)), (1, .int s), (2, .int (x_lotsN (M (q + 5)) s 0)), (3, .int (nI 0))]) 3 rfl rfl rfl ?_
  exact key4 _ 0 (Nat.lt_succ_self _) (by omega)
def x_owes (M : jM) (q w : Nat) : Int32 := jSum (M (q + 6 + w)) 0 6
set_option maxHeartbeats 4000000 in
set_option maxRecDepth 10000 in
theorem c_X2_owesInAll (l : Launch) (D : va_G) (a : Nat → Nat) (g : Nat → ClassId) (M : jM) (L : jL) (q : Nat) (hq : jRl q) (w : Nat) (hw : w < 6)  : jK l D a g yX2_owesInAll cX2_owesInAll 4 (some .int) 0 0 [.ref (a q), .int (nI w)] M L (some (.int (x_owes M q w))) M L := by
  refine jMeth (by decide) (Nat.le_of_ble_eq_true rfl) ?_
  intro G hX hZ
  refine J_cg (loc' := [(0, .ref (a q)), (1, .int (nI w))]) rfl rfl rfl rfl ?_
  refine J_iconst (v := 0) hX dX2_owesInAll_0 (by decide) ?_
  refine J_istore_n (loc' := [(2, .int 0), (0, .ref (a q)), (1, .int (nI w))]) hX dX2_owesInAll_1 (by decide) rfl ?_
  refine J_iconst (v := 0) hX dX2_owesInAll_2 (by decide) ?_
  refine J_istore_n (loc' := [(3, .int 0), (2, .int 0), (0, .ref (a q)), (1, .int (nI w))]) hX dX2_owesInAll_3 (by decide) rfl ?_
  have key4 : ∀ (n : Nat) (i : Nat), 6 - i < n → i ≤ 6 → J l D a g G 4 M L 4 [(0, .ref (a q)), (1, .int (nI w)), (2, .int (jSum (M (q + 6 + w)) 0 i)), (3, .int (nI i))] [] := by
    intro n
    induction n with
    | zero => intro i hmu; exact absurd hmu (Nat.not_lt_zero _)
    | succ n ih4 =>
      intro i hmu4 hi
      refine J_iload_n hX 3 dX2_owesInAll_4 rfl ?_
      refine J_bipush (v := 6) hX dX2_owesInAll_5 (by decide) ?_
      refine J_cmpN_ge hX 27 i 6 dX2_owesInAll_7 (by decide) rfl rfl (by omega) (by omega) (fun h7 => ?_) (fun h7 => ?_)
      · skip
        refine J_iload_n hX 2 dX2_owesInAll_27 rfl ?_
        exact J_ret hX hZ dX2_owesInAll_28 rfl rfl ⟨by rw [show i = 6 by omega]; rfl, rfl, rfl⟩
      · skip
        refine J_iload_n hX 2 dX2_owesInAll_10 rfl ?_
        refine J_aload_n hX 0 dX2_owesInAll_11 rfl ?_
        refine J_getr hX q 2 dX2_owesInAll_12 hq.o rfl rfl (by decide) inlX2 wm_3_0 ?_
        refine J_iload_n hX 1 dX2_owesInAll_15 rfl ?_
        refine J_aald (ty := .array .int) hX (q + 3) w dX2_owesInAll_16 hq.c3 rfl rfl rfl (hq.at (by omega)) (Nat.le_of_ble_eq_true rfl) ?_
        refine J_iload_n hX 3 dX2_owesInAll_17 rfl ?_
        refine J_iald hX (q + 6 + w) i dX2_owesInAll_18 (hq.row (by omega)) rfl (by omega) (by omega) ?_
        refine J_iadd hX dX2_owesInAll_19 ?_
        refine J_istore_n (loc' := [(2, .int ((jSum (M (q + 6 + w)) 0 i) + (M (q + 6 + w) i))), (0, .ref (a q)), (1, .int (nI w)), (3, .int (nI i))]) hX dX2_owesInAll_20 (by decide) rfl ?_
        refine J_iinc (v := nI (i + 1)) (loc' := [(3, .int (nI (i + 1))), (2, .int ((jSum (M (q + 6 + w)) 0 i) + (M (q + 6 + w) i))), (0, .ref (a q)), (1, .int (nI w))]) hX 3 dX2_owesInAll_21 rfl (jinc i) (by decide) rfl ?_
        refine J_goto hX 4 dX2_owesInAll_24 (by decide) ?_
        refine J_sub (loc' := [(0, .ref (a q)), (1, .int (nI w)), (2, .int ((jSum (M (q + 6 + w)) 0 i) + (M (q + 6 + w) i))), (3, .int (nI (i + 1)))]) [2, 3, 1, 0] rfl ?_
        refine J_seti (y := jSum (M (q + 6 + w)) 0 (i + 1)) (loc' := [(0, .ref (a q)), (1, .int (nI w)), (2, .int (jSum (M (q + 6 + w)) 0 (i + 1))), (3, .int (nI (i + 1)))]) 2 rfl rfl rfl ?_
        exact ih4  (i + 1) (by omega) (by omega)
  refine J_sub (loc' := [(0, .ref (a q)), (1, .int (nI w)), (2, .int 0), (3, .int 0)]) [2, 3, 1, 0] rfl ?_
  refine J_seti (y := jSum (M (q + 6 + w)) 0 0) (loc' := [(0, .ref (a q)), (1, .int (nI w)), (2, .int (jSum (M (q + 6 + w)) 0 0)), (3, .int 0)]) 2 rfl rfl rfl ?_
  refine J_seti (y := nI 0) (loc' := [(0, .ref (a q)), (1, .int (nI w)), (2, .int (jSum (M (q + 6 + w)) 0 0)), (3, .int (nI 0))]) 3 rfl rfl rfl ?_
  exact key4 _ 0 (Nat.lt_succ_self _) (by omega)
def x_ofOne (M : jM) (q w : Nat) (k : Int32) : Int32 := if k = 0 then M (q + 1) w else if k = 1 then M (q + 2) w else if k = 2 then x_lotsOf M q (nI w) else x_owes M q w
set_option maxHeartbeats 4000000 in
set_option maxRecDepth 10000 in
theorem c_X2_ofOne (l : Launch) (D : va_G) (a : Nat → Nat) (g : Nat → ClassId) (M : jM) (L : jL) (q : Nat) (hq : jRl q) (w : Nat) (hw : w < 6) (k : Int32)  : jK l D a g yX2_ofOne cX2_ofOne 3 (some .int) 1 23 [.ref (a q), .int (nI w), .int k] M L (some (.int (x_ofOne M q w k))) M L := by
  refine jMeth (by decide) (Nat.le_of_ble_eq_true rfl) ?_
  intro G hX hZ
  refine J_cg (loc' := [(0, .ref (a q)), (1, .int (nI w)), (2, .int k)]) rfl rfl rfl rfl ?_
  refine J_iload_n hX 2 dX2_ofOne_0 rfl ?_
  by_cases s1_0 : k = 0
  · refine J_tableIn hX 28 dX2_ofOne_1 (by rw [s1_0]; decide) (by rw [s1_0]; decide) (by rw [s1_0]; rfl) (by decide) ?_
    refine J_aload_n hX 0 dX2_ofOne_28 rfl ?_
    refine J_getr hX q 0 dX2_ofOne_29 hq.o rfl rfl (by decide) inlX2 wm_2_21 ?_
    refine J_iload_n hX 1 dX2_ofOne_32 rfl ?_
    refine J_iald hX (q + 1) w dX2_ofOne_33 hq.c1 rfl (by omega) (by omega) ?_
    exact J_ret hX hZ dX2_ofOne_34 rfl rfl ⟨by simp [x_ofOne, s1_0], rfl, rfl⟩
  by_cases s1_1 : k = 1
  · refine J_tableIn hX 35 dX2_ofOne_1 (by rw [s1_1]; decide) (by rw [s1_1]; decide) (by rw [s1_1]; rfl) (by decide) ?_
    refine J_aload_n hX 0 dX2_ofOne_35 rfl ?_
    refine J_getr hX q 1 dX2_ofOne_36 hq.o rfl rfl (by decide) inlX2 wm_2_22 ?_
    refine J_iload_n hX 1 dX2_ofOne_39 rfl ?_
    refine J_iald hX (q + 2) w dX2_ofOne_40 hq.c2 rfl (by omega) (by omega) ?_
    exact J_ret hX hZ dX2_ofOne_41 rfl rfl ⟨by simp [x_ofOne, s1_0, s1_1], rfl, rfl⟩
  by_cases s1_2 : k = 2
  · refine J_tableIn hX 42 dX2_ofOne_1 (by rw [s1_2]; decide) (by rw [s1_2]; decide) (by rw [s1_2]; rfl) (by decide) ?_
    refine J_aload_n hX 0 dX2_ofOne_42 rfl ?_
    refine J_iload_n hX 1 dX2_ofOne_43 rfl ?_
    refine J_callV hX q [.int (nI w)] [] dX2_ofOne_44 (c_X2_lotsOf l D a g M L q hq (nI w)) lk_X2_59 hq.o rfl rfl rfl (Nat.le_of_ble_eq_true rfl) (Nat.le_of_ble_eq_true rfl) (Nat.le_of_ble_eq_true rfl) (J_eq (st := [.int (x_lotsOf M q (nI w))]) rfl ?_)
    exact J_ret hX hZ dX2_ofOne_47 rfl rfl ⟨by simp [x_ofOne, s1_0, s1_1, s1_2], rfl, rfl⟩
  have t1_0 := lv_neT s1_0 (show (0 : Int32).toInt = 0 from rfl)
  have t1_1 := lv_neT s1_1 (show (1 : Int32).toInt = 1 from rfl)
  have t1_2 := lv_neT s1_2 (show (2 : Int32).toInt = 2 from rfl)
  refine J_tableOut hX 48 dX2_ofOne_1 (by omega) (by decide) ?_
  refine J_aload_n hX 0 dX2_ofOne_48 rfl ?_
  refine J_iload_n hX 1 dX2_ofOne_49 rfl ?_
  refine J_callV hX q [.int (nI w)] [] dX2_ofOne_50 (c_X2_owesInAll l D a g M L q hq w (by omega)) lk_X2_63 hq.o rfl rfl rfl (Nat.le_of_ble_eq_true rfl) (Nat.le_of_ble_eq_true rfl) (Nat.le_of_ble_eq_true rfl) (J_eq (st := [.int (x_owes M q w)]) rfl ?_)
  exact J_ret hX hZ dX2_ofOne_53 rfl rfl ⟨by simp [x_ofOne, s1_0, s1_1, s1_2], rfl, rfl⟩
end
section
def x_printed (M : jM) (q : Nat) (s : Int32) : Int32 × jM := if M q 5 + s ≤ 99999 then (0, jU M q 5 (M q 5 + s)) else (5, M)
set_option maxHeartbeats 4000000 in
set_option maxRecDepth 10000 in
theorem c_X2_printed (l : Launch) (D : va_G) (a : Nat → Nat) (g : Nat → ClassId) (M : jM) (L : jL) (q : Nat) (hq : jRl q) (s : Int32)  : jK l D a g yX2_printed cX2_printed 2 (some .int) 0 0 [.ref (a q), .int s] M L (some (.int ((x_printed M q s).1))) ((x_printed M q s).2) L := by
  refine jMeth (by decide) (Nat.le_of_ble_eq_true rfl) ?_
  intro G hX hZ
  refine J_cg (loc' := [(0, .ref (a q)), (1, .int s)]) rfl rfl rfl rfl ?_
  refine J_aload_n hX 0 dX2_printed_0 rfl ?_
  refine J_geti hX q 5 dX2_printed_1 hq.o rfl rfl (by decide) inlX2 wm_13_0 ?_
  refine J_iload_n hX 1 dX2_printed_4 rfl ?_
  refine J_iadd hX dX2_printed_5 ?_
  refine J_ldc hX dX2_printed_6 wm_14_2 ?_
  refine J_icmp_le hX 13 dX2_printed_8 (by decide) (fun h8 => ?_) (fun h8 => ?_)
  · skip
    refine J_aload_n hX 0 dX2_printed_13 rfl ?_
    refine J_dup hX dX2_printed_14 rfl ?_
    refine J_geti hX q 5 dX2_printed_15 hq.o rfl rfl (by decide) inlX2 wm_13_0 ?_
    refine J_iload_n hX 1 dX2_printed_18 rfl ?_
    refine J_iadd hX dX2_printed_19 ?_
    refine J_puti (ty := .int) hX q 5 dX2_printed_20 hq.o rfl rfl (by decide) inlX2 wm_13_0 tyX2 tyX2_ok nmX2 rfl (by decide +kernel) rfl rfl ?_
    refine J_iconst (v := 0) hX dX2_printed_23 (by decide) ?_
    exact J_ret hX hZ dX2_printed_24 rfl rfl ⟨by simp [x_printed, h8], by simp [x_printed, h8], rfl⟩
  · skip
    refine J_iconst (v := 5) hX dX2_printed_11 (by decide) ?_
    exact J_ret hX hZ dX2_printed_12 rfl rfl ⟨by simp [x_printed, h8], by simp [x_printed, h8], rfl⟩
def x_paid (M : jM) (q w : Nat) (s : Int32) : Int32 × jM := if s ≤ M q 5 then (if M (q + 1) w + s ≤ 9999 then (0, jU (jU M q 5 (M q 5 - s)) (q + 1) w (jU M q 5 (M q 5 - s) (q + 1) w + s)) else (5, M)) else (3, M)
set_option maxHeartbeats 4000000 in
set_option maxRecDepth 10000 in
theorem c_X2_paidByState (l : Launch) (D : va_G) (a : Nat → Nat) (g : Nat → ClassId) (M : jM) (L : jL) (q : Nat) (hq : jRl q) (w : Nat) (hw : w < 6) (s : Int32)  : jK l D a g yX2_paidByState cX2_paidByState 3 (some .int) 0 0 [.ref (a q), .int (nI w), .int s] M L (some (.int ((x_paid M q w s).1))) ((x_paid M q w s).2) L := by
  refine jMeth (by decide) (Nat.le_of_ble_eq_true rfl) ?_
  intro G hX hZ
  refine J_cg (loc' := [(0, .ref (a q)), (1, .int (nI w)), (2, .int s)]) rfl rfl rfl rfl ?_
  refine J_aload_n hX 0 dX2_paidByState_0 rfl ?_
  refine J_geti hX q 5 dX2_paidByState_1 hq.o rfl rfl (by decide) inlX2 wm_13_0 ?_
  refine J_iload_n hX 2 dX2_paidByState_4 rfl ?_
  refine J_icmp_ge hX 10 dX2_paidByState_5 (by decide) (fun h5 => ?_) (fun h5 => ?_)
  · skip
    refine J_aload_n hX 0 dX2_paidByState_10 rfl ?_
    refine J_getr hX q 0 dX2_paidByState_11 hq.o rfl rfl (by decide) inlX2 wm_2_21 ?_
    refine J_iload_n hX 1 dX2_paidByState_14 rfl ?_
    refine J_iald hX (q + 1) w dX2_paidByState_15 hq.c1 rfl (by omega) (by omega) ?_
    refine J_iload_n hX 2 dX2_paidByState_16 rfl ?_
    refine J_iadd hX dX2_paidByState_17 ?_
    refine J_sipush (v := 9999) hX dX2_paidByState_18 (by decide) ?_
    refine J_icmp_le hX 26 dX2_paidByState_21 (by decide) (fun h21 => ?_) (fun h21 => ?_)
    · skip
      refine J_aload_n hX 0 dX2_paidByState_26 rfl ?_
      refine J_dup hX dX2_paidByState_27 rfl ?_
      refine J_geti hX q 5 dX2_paidByState_28 hq.o rfl rfl (by decide) inlX2 wm_13_0 ?_
      refine J_iload_n hX 2 dX2_paidByState_31 rfl ?_
      refine J_isub hX dX2_paidByState_32 ?_
      refine J_puti (ty := .int) hX q 5 dX2_paidByState_33 hq.o rfl rfl (by decide) inlX2 wm_13_0 tyX2 tyX2_ok nmX2 rfl (by decide +kernel) rfl rfl ?_
      refine J_aload_n hX 0 dX2_paidByState_36 rfl ?_
      refine J_getr hX q 0 dX2_paidByState_37 hq.o rfl rfl (by decide) inlX2 wm_2_21 ?_
      refine J_iload_n hX 1 dX2_paidByState_40 rfl ?_
      refine J_dup2 hX dX2_paidByState_41 rfl rfl ?_
      refine J_iald hX (q + 1) w dX2_paidByState_42 hq.c1 rfl (by omega) (by omega) ?_
      refine J_iload_n hX 2 dX2_paidByState_43 rfl ?_
      refine J_iadd hX dX2_paidByState_44 ?_
      refine J_iast hX (q + 1) w dX2_paidByState_45 hq.c1 rfl (by omega) (by omega) ?_
      refine J_iconst (v := 0) hX dX2_paidByState_46 (by decide) ?_
      exact J_ret hX hZ dX2_paidByState_47 rfl rfl ⟨by simp [x_paid, h5, h21], by simp [x_paid, h5, h21], rfl⟩
    · skip
      refine J_iconst (v := 5) hX dX2_paidByState_24 (by decide) ?_
      exact J_ret hX hZ dX2_paidByState_25 rfl rfl ⟨by simp [x_paid, h5, h21], by simp [x_paid, h5, h21], rfl⟩
  · skip
    refine J_iconst (v := 3) hX dX2_paidByState_8 (by decide) ?_
    exact J_ret hX hZ dX2_paidByState_9 rfl rfl ⟨by simp [x_paid, h5], by simp [x_paid, h5], rfl⟩
def x_boughtM (M : jM) (q w v : Nat) : jM :=
  let M1 := jU M (q + 1) w (M (q + 1) w - M (q + 4) v)
  let M2 := jU M1 q 7 (M1 q 7 + M1 (q + 4) v)
  jU M2 (q + 5) v (nI w)
def x_bought (M : jM) (q w v : Nat) : Int32 × jM := if M (q + 5) v = -1 then (if M (q + 4) v ≤ M (q + 1) w then (0, x_boughtM M q w v) else (3, M)) else (2, M)
set_option maxHeartbeats 4000000 in
set_option maxRecDepth 10000 in
theorem c_X2_bought (l : Launch) (D : va_G) (a : Nat → Nat) (g : Nat → ClassId) (M : jM) (L : jL) (q : Nat) (hq : jRl q) (w : Nat) (hw : w < 6) (v : Nat) (hv : v < 8)  : jK l D a g yX2_bought cX2_bought 3 (some .int) 0 0 [.ref (a q), .int (nI w), .int (nI v)] M L (some (.int ((x_bought M q w v).1))) ((x_bought M q w v).2) L := by
  refine jMeth (by decide) (Nat.le_of_ble_eq_true rfl) ?_
  intro G hX hZ
  refine J_cg (loc' := [(0, .ref (a q)), (1, .int (nI w)), (2, .int (nI v))]) rfl rfl rfl rfl ?_
  refine J_aload_n hX 0 dX2_bought_0 rfl ?_
  refine J_getr hX q 4 dX2_bought_1 hq.o rfl rfl (by decide) inlX2 wm_3_2 ?_
  refine J_iload_n hX 2 dX2_bought_4 rfl ?_
  refine J_iald hX (q + 5) v dX2_bought_5 hq.c5 rfl (by omega) (by omega) ?_
  refine J_iconst (v := (-1)) hX dX2_bought_6 (by decide) ?_
  refine J_icmp_eq hX 12 dX2_bought_7 (by decide) (fun h7 => ?_) (fun h7 => ?_)
  · skip
    refine J_aload_n hX 0 dX2_bought_12 rfl ?_
    refine J_getr hX q 0 dX2_bought_13 hq.o rfl rfl (by decide) inlX2 wm_2_21 ?_
    refine J_iload_n hX 1 dX2_bought_16 rfl ?_
    refine J_iald hX (q + 1) w dX2_bought_17 hq.c1 rfl (by omega) (by omega) ?_
    refine J_aload_n hX 0 dX2_bought_18 rfl ?_
    refine J_getr hX q 3 dX2_bought_19 hq.o rfl rfl (by decide) inlX2 wm_3_1 ?_
    refine J_iload_n hX 2 dX2_bought_22 rfl ?_
    refine J_iald hX (q + 4) v dX2_bought_23 hq.c4 rfl (by omega) (by omega) ?_
    refine J_icmp_ge hX 29 dX2_bought_24 (by decide) (fun h24 => ?_) (fun h24 => ?_)
    · skip
      refine J_aload_n hX 0 dX2_bought_29 rfl ?_
      refine J_getr hX q 0 dX2_bought_30 hq.o rfl rfl (by decide) inlX2 wm_2_21 ?_
      refine J_iload_n hX 1 dX2_bought_33 rfl ?_
      refine J_dup2 hX dX2_bought_34 rfl rfl ?_
      refine J_iald hX (q + 1) w dX2_bought_35 hq.c1 rfl (by omega) (by omega) ?_
      refine J_aload_n hX 0 dX2_bought_36 rfl ?_
      refine J_getr hX q 3 dX2_bought_37 hq.o rfl rfl (by decide) inlX2 wm_3_1 ?_
      refine J_iload_n hX 2 dX2_bought_40 rfl ?_
      refine J_iald hX (q + 4) v dX2_bought_41 hq.c4 rfl (by omega) (by omega) ?_
      refine J_isub hX dX2_bought_42 ?_
      refine J_iast hX (q + 1) w dX2_bought_43 hq.c1 rfl (by omega) (by omega) ?_
      refine J_aload_n hX 0 dX2_bought_44 rfl ?_
      refine J_dup hX dX2_bought_45 rfl ?_
      refine J_geti hX q 7 dX2_bought_46 hq.o rfl rfl (by decide) inlX2 wm_13_2 ?_
      refine J_aload_n hX 0 dX2_bought_49 rfl ?_
      refine J_getr hX q 3 dX2_bought_50 hq.o rfl rfl (by decide) inlX2 wm_3_1 ?_
      refine J_iload_n hX 2 dX2_bought_53 rfl ?_
      refine J_iald hX (q + 4) v dX2_bought_54 hq.c4 rfl (by omega) (by omega) ?_
      refine J_iadd hX dX2_bought_55 ?_
      refine J_puti (ty := .int) hX q 7 dX2_bought_56 hq.o rfl rfl (by decide) inlX2 wm_13_2 tyX2 tyX2_ok nmX2 rfl (by decide +kernel) rfl rfl ?_
      refine J_aload_n hX 0 dX2_bought_59 rfl ?_
      refine J_getr hX q 4 dX2_bought_60 hq.o rfl rfl (by decide) inlX2 wm_3_2 ?_
      refine J_iload_n hX 2 dX2_bought_63 rfl ?_
      refine J_iload_n hX 1 dX2_bought_64 rfl ?_
      refine J_iast hX (q + 5) v dX2_bought_65 hq.c5 rfl (by omega) (by omega) ?_
      refine J_iconst (v := 0) hX dX2_bought_66 (by decide) ?_
      exact J_ret hX hZ dX2_bought_67 rfl rfl ⟨by simp [x_bought, h7, h24], by simp [x_bought, x_boughtM, h7, h24], rfl⟩
    · skip
      refine J_iconst (v := 3) hX dX2_bought_27 (by decide) ?_
      exact J_ret hX hZ dX2_bought_28 rfl rfl ⟨by simp [x_bought, h7, h24], by simp [x_bought, x_boughtM, h7, h24], rfl⟩
  · skip
    refine J_iconst (v := 2) hX dX2_bought_10 (by decide) ?_
    exact J_ret hX hZ dX2_bought_11 rfl rfl ⟨by simp [x_bought, h7], by simp [x_bought, x_boughtM, h7], rfl⟩
def x_worth (M : jM) (q : Nat) (s : Int32) : Int32 := s * x_rate M q / 100
def x_exchM (M : jM) (q w : Nat) (s : Int32) : jM :=
  let M1 := jU M (q + 1) w (M (q + 1) w - s)
  let M2 := jU M1 q 5 (M1 q 5 + s)
  jU M2 (q + 2) w (M2 (q + 2) w + x_worth M q s)
def x_exch (M : jM) (q w : Nat) (s : Int32) : Int32 × jM := if s ≤ M (q + 1) w then (if 99999 < M q 5 + s then (5, M) else if M (q + 2) w + x_worth M q s ≤ 9999 then (0, x_exchM M q w s) else (5, M)) else (3, M)
set_option maxHeartbeats 4000000 in
set_option maxRecDepth 10000 in
theorem c_X2_exchanged (l : Launch) (D : va_G) (a : Nat → Nat) (g : Nat → ClassId) (M : jM) (L : jL) (q : Nat) (hq : jRl q) (w : Nat) (hw : w < 6) (s : Int32)  : jK l D a g yX2_exchanged cX2_exchanged 4 (some .int) 3 71 [.ref (a q), .int (nI w), .int s] M L (some (.int ((x_exch M q w s).1))) ((x_exch M q w s).2) L := by
  refine jMeth (by decide) (Nat.le_of_ble_eq_true rfl) ?_
  intro G hX hZ
  refine J_cg (loc' := [(0, .ref (a q)), (1, .int (nI w)), (2, .int s)]) rfl rfl rfl rfl ?_
  refine J_aload_n hX 0 dX2_exchanged_0 rfl ?_
  refine J_getr hX q 0 dX2_exchanged_1 hq.o rfl rfl (by decide) inlX2 wm_2_21 ?_
  refine J_iload_n hX 1 dX2_exchanged_4 rfl ?_
  refine J_iald hX (q + 1) w dX2_exchanged_5 hq.c1 rfl (by omega) (by omega) ?_
  refine J_iload_n hX 2 dX2_exchanged_6 rfl ?_
  refine J_icmp_ge hX 12 dX2_exchanged_7 (by decide) (fun h7 => ?_) (fun h7 => ?_)
  · skip
    refine J_iload_n hX 2 dX2_exchanged_12 rfl ?_
    refine J_aload_n hX 0 dX2_exchanged_13 rfl ?_
    refine J_callV hX q [] [.int s] dX2_exchanged_14 (c_X2_rate l D a g M L q hq) lk_X2_88 hq.o rfl rfl rfl (Nat.le_of_ble_eq_true rfl) (Nat.le_of_ble_eq_true rfl) (Nat.le_of_ble_eq_true rfl) (J_eq (st := [.int (x_rate M q), .int s]) rfl ?_)
    refine J_imul hX dX2_exchanged_17 ?_
    refine J_bipush (v := 100) hX dX2_exchanged_18 (by decide) ?_
    refine J_idiv hX dX2_exchanged_20 (by decide) ?_
    refine J_topi (y := x_worth M q s) rfl ?_
    refine J_istore_n (loc' := [(3, .int (x_worth M q s)), (0, .ref (a q)), (1, .int (nI w)), (2, .int s)]) hX dX2_exchanged_21 (by decide) rfl ?_
    refine J_aload_n hX 1 dX2_exchanged_22 rfl ?_
    refine J_geti hX q 5 dX2_exchanged_23 hq.o rfl rfl (by decide) inlX2 wm_13_0 ?_
    refine J_iload_n hX 3 dX2_exchanged_26 rfl ?_
    refine J_iadd hX dX2_exchanged_27 ?_
    refine J_ldc hX dX2_exchanged_28 wm_14_2 ?_
    refine J_icmp_gt hX 47 dX2_exchanged_30 (by decide) (fun h30 => ?_) (fun h30 => ?_)
    · skip
      refine J_iconst (v := 5) hX dX2_exchanged_47 (by decide) ?_
      exact J_ret hX hZ dX2_exchanged_48 rfl rfl ⟨by simp [x_exch, h7, h30], by simp [x_exch, x_exchM, h7, h30], rfl⟩
    · skip
      refine J_aload_n hX 1 dX2_exchanged_33 rfl ?_
      refine J_getr hX q 1 dX2_exchanged_34 hq.o rfl rfl (by decide) inlX2 wm_2_22 ?_
      refine J_iload_n hX 2 dX2_exchanged_37 rfl ?_
      refine J_iald hX (q + 2) w dX2_exchanged_38 hq.c2 rfl (by omega) (by omega) ?_
      refine J_iload_n hX 0 dX2_exchanged_39 rfl ?_
      refine J_iadd hX dX2_exchanged_40 ?_
      refine J_sipush (v := 9999) hX dX2_exchanged_41 (by decide) ?_
      refine J_icmp_le hX 49 dX2_exchanged_44 (by decide) (fun h44 => ?_) (fun h44 => ?_)
      · skip
        refine J_aload_n hX 1 dX2_exchanged_49 rfl ?_
        refine J_getr hX q 0 dX2_exchanged_50 hq.o rfl rfl (by decide) inlX2 wm_2_21 ?_
        refine J_iload_n hX 2 dX2_exchanged_53 rfl ?_
        refine J_dup2 hX dX2_exchanged_54 rfl rfl ?_
        refine J_iald hX (q + 1) w dX2_exchanged_55 hq.c1 rfl (by omega) (by omega) ?_
        refine J_iload_n hX 3 dX2_exchanged_56 rfl ?_
        refine J_isub hX dX2_exchanged_57 ?_
        refine J_iast hX (q + 1) w dX2_exchanged_58 hq.c1 rfl (by omega) (by omega) ?_
        refine J_aload_n hX 1 dX2_exchanged_59 rfl ?_
        refine J_dup hX dX2_exchanged_60 rfl ?_
        refine J_geti hX q 5 dX2_exchanged_61 hq.o rfl rfl (by decide) inlX2 wm_13_0 ?_
        refine J_iload_n hX 3 dX2_exchanged_64 rfl ?_
        refine J_iadd hX dX2_exchanged_65 ?_
        refine J_puti (ty := .int) hX q 5 dX2_exchanged_66 hq.o rfl rfl (by decide) inlX2 wm_13_0 tyX2 tyX2_ok nmX2 rfl (by decide +kernel) rfl rfl ?_
        refine J_aload_n hX 1 dX2_exchanged_69 rfl ?_
        refine J_getr hX q 1 dX2_exchanged_70 hq.o rfl rfl (by decide) inlX2 wm_2_22 ?_
        refine J_iload_n hX 2 dX2_exchanged_73 rfl ?_
        refine J_dup2 hX dX2_exchanged_74 rfl rfl ?_
        refine J_iald hX (q + 2) w dX2_exchanged_75 hq.c2 rfl (by omega) (by omega) ?_
        refine J_iload_n hX 0 dX2_exchanged_76 rfl ?_
        refine J_iadd hX dX2_exchanged_77 ?_
        refine J_iast hX (q + 2) w dX2_exchanged_78 hq.c2 rfl (by omega) (by omega) ?_
        refine J_iconst (v := 0) hX dX2_exchanged_79 (by decide) ?_
        exact J_ret hX hZ dX2_exchanged_80 rfl rfl ⟨by simp [x_exch, h7, h30, h44], by simp [x_exch, x_exchM, h7, h30, h44], rfl⟩
      · skip
        refine J_iconst (v := 5) hX dX2_exchanged_47 (by decide) ?_
        exact J_ret hX hZ dX2_exchanged_48 rfl rfl ⟨by simp [x_exch, h7, h30, h44], by simp [x_exch, x_exchM, h7, h30, h44], rfl⟩
  · skip
    refine J_iconst (v := 3) hX dX2_exchanged_10 (by decide) ?_
    exact J_ret hX hZ dX2_exchanged_11 rfl rfl ⟨by simp [x_exch, h7], by simp [x_exch, x_exchM, h7], rfl⟩
def x_sum (M : jM) (q w v : Nat) : Int32 := if M (q + 1) w < M (q + 6 + w) v then M (q + 1) w else M (q + 6 + w) v
def x_settM (M : jM) (q w v : Nat) : jM :=
  let M1 := jU M (q + 6 + w) v (M (q + 6 + w) v - x_sum M q w v)
  let M2 := jU M1 (q + 1) w (M1 (q + 1) w - x_sum M q w v)
  jU M2 (q + 1) v (M2 (q + 1) v + x_sum M q w v)
def x_sett (M : jM) (q w v : Nat) : Int32 × jM := if w = v then (1, M) else if x_sum M q w v = 0 then (4, M) else if M (q + 1) v + x_sum M q w v ≤ 9999 then (0, x_settM M q w v) else (5, M)
set_option maxHeartbeats 4000000 in
set_option maxRecDepth 10000 in
theorem c_X2_settled (l : Launch) (D : va_G) (a : Nat → Nat) (g : Nat → ClassId) (M : jM) (L : jL) (q : Nat) (hq : jRl q) (w : Nat) (hw : w < 6) (v : Nat) (hv : v < 6)  : jK l D a g yX2_settled cX2_settled 4 (some .int) 1 30 [.ref (a q), .int (nI w), .int (nI v)] M L (some (.int ((x_sett M q w v).1))) ((x_sett M q w v).2) L := by
  refine jMeth (by decide) (Nat.le_of_ble_eq_true rfl) ?_
  intro G hX hZ
  refine J_cg (loc' := [(0, .ref (a q)), (1, .int (nI w)), (2, .int (nI v))]) rfl rfl rfl rfl ?_
  refine J_iload_n hX 1 dX2_settled_0 rfl ?_
  refine J_iload_n hX 2 dX2_settled_1 rfl ?_
  refine J_cmpN_ne hX 7 w v dX2_settled_2 (by decide) rfl rfl (by omega) (by omega) (fun h2 => ?_) (fun h2 => ?_)
  · skip
    refine J_aload_n hX 0 dX2_settled_7 rfl ?_
    refine J_getr hX q 2 dX2_settled_8 hq.o rfl rfl (by decide) inlX2 wm_3_0 ?_
    refine J_iload_n hX 1 dX2_settled_11 rfl ?_
    refine J_aald (ty := .array .int) hX (q + 3) w dX2_settled_12 hq.c3 rfl rfl rfl (hq.at (by omega)) (Nat.le_of_ble_eq_true rfl) ?_
    refine J_iload_n hX 2 dX2_settled_13 rfl ?_
    refine J_iald hX (q + 6 + w) v dX2_settled_14 (hq.row (by omega)) rfl (by omega) (by omega) ?_
    refine J_aload_n hX 0 dX2_settled_15 rfl ?_
    refine J_getr hX q 0 dX2_settled_16 hq.o rfl rfl (by decide) inlX2 wm_2_21 ?_
    refine J_iload_n hX 1 dX2_settled_19 rfl ?_
    refine J_iald hX (q + 1) w dX2_settled_20 hq.c1 rfl (by omega) (by omega) ?_
    refine J_mmin hX dX2_settled_21 wm_15_13 wm_15_6 wm_15_7 wm_15_8 (Nat.le_of_ble_eq_true rfl) (Nat.le_of_ble_eq_true rfl) ?_
    refine J_topi (y := x_sum M q w v) rfl ?_
    refine J_istore_n (loc' := [(3, .int (x_sum M q w v)), (0, .ref (a q)), (1, .int (nI w)), (2, .int (nI v))]) hX dX2_settled_24 (by decide) rfl ?_
    refine J_iload_n hX 0 dX2_settled_25 rfl ?_
    refine J_if_ne hX 31 dX2_settled_26 (by decide) (fun h26 => ?_) (fun h26 => ?_)
    · skip
      refine J_aload_n hX 1 dX2_settled_31 rfl ?_
      refine J_getr hX q 0 dX2_settled_32 hq.o rfl rfl (by decide) inlX2 wm_2_21 ?_
      refine J_iload_n hX 3 dX2_settled_35 rfl ?_
      refine J_iald hX (q + 1) v dX2_settled_36 hq.c1 rfl (by omega) (by omega) ?_
      refine J_iload_n hX 0 dX2_settled_37 rfl ?_
      refine J_iadd hX dX2_settled_38 ?_
      refine J_sipush (v := 9999) hX dX2_settled_39 (by decide) ?_
      refine J_icmp_le hX 47 dX2_settled_42 (by decide) (fun h42 => ?_) (fun h42 => ?_)
      · skip
        refine J_aload_n hX 1 dX2_settled_47 rfl ?_
        refine J_getr hX q 2 dX2_settled_48 hq.o rfl rfl (by decide) inlX2 wm_3_0 ?_
        refine J_iload_n hX 2 dX2_settled_51 rfl ?_
        refine J_aald (ty := .array .int) hX (q + 3) w dX2_settled_52 hq.c3 rfl rfl rfl (hq.at (by omega)) (Nat.le_of_ble_eq_true rfl) ?_
        refine J_iload_n hX 3 dX2_settled_53 rfl ?_
        refine J_dup2 hX dX2_settled_54 rfl rfl ?_
        refine J_iald hX (q + 6 + w) v dX2_settled_55 (hq.row (by omega)) rfl (by omega) (by omega) ?_
        refine J_iload_n hX 0 dX2_settled_56 rfl ?_
        refine J_isub hX dX2_settled_57 ?_
        refine J_iast hX (q + 6 + w) v dX2_settled_58 (hq.row (by omega)) rfl (by omega) (by omega) ?_
        refine J_aload_n hX 1 dX2_settled_59 rfl ?_
        refine J_getr hX q 0 dX2_settled_60 hq.o rfl rfl (by decide) inlX2 wm_2_21 ?_
        refine J_iload_n hX 2 dX2_settled_63 rfl ?_
        refine J_dup2 hX dX2_settled_64 rfl rfl ?_
        refine J_iald hX (q + 1) w dX2_settled_65 hq.c1 rfl (by omega) (by omega) ?_
        refine J_iload_n hX 0 dX2_settled_66 rfl ?_
        refine J_isub hX dX2_settled_67 ?_
        refine J_iast hX (q + 1) w dX2_settled_68 hq.c1 rfl (by omega) (by omega) ?_
        refine J_aload_n hX 1 dX2_settled_69 rfl ?_
        refine J_getr hX q 0 dX2_settled_70 hq.o rfl rfl (by decide) inlX2 wm_2_21 ?_
        refine J_iload_n hX 3 dX2_settled_73 rfl ?_
        refine J_dup2 hX dX2_settled_74 rfl rfl ?_
        refine J_iald hX (q + 1) v dX2_settled_75 hq.c1 rfl (by omega) (by omega) ?_
        refine J_iload_n hX 0 dX2_settled_76 rfl ?_
        refine J_iadd hX dX2_settled_77 ?_
        refine J_iast hX (q + 1) v dX2_settled_78 hq.c1 rfl (by omega) (by omega) ?_
        refine J_iconst (v := 0) hX dX2_settled_79 (by decide) ?_
        exact J_ret hX hZ dX2_settled_80 rfl rfl ⟨by simp [x_sett, h2, h26, h42], by simp [x_sett, x_settM, h2, h26, h42], rfl⟩
      · skip
        refine J_iconst (v := 5) hX dX2_settled_45 (by decide) ?_
        exact J_ret hX hZ dX2_settled_46 rfl rfl ⟨by simp [x_sett, h2, h26, h42], by simp [x_sett, x_settM, h2, h26, h42], rfl⟩
    · skip
      refine J_iconst (v := 4) hX dX2_settled_29 (by decide) ?_
      exact J_ret hX hZ dX2_settled_30 rfl rfl ⟨by simp [x_sett, h2, h26], by simp [x_sett, x_settM, h2, h26], rfl⟩
  · skip
    refine J_iconst (v := 1) hX dX2_settled_5 (by decide) ?_
    exact J_ret hX hZ dX2_settled_6 rfl rfl ⟨by simp [x_sett, h2], by simp [x_sett, x_settM, h2], rfl⟩
def x_forgM (M : jM) (q w : Nat) (s : Int32) : jM :=
  let M1 := jU M (q + 1) w (M (q + 1) w + s)
  jU M1 q 6 (M1 q 6 + s)
def x_forg (M : jM) (q w : Nat) (s : Int32) : Int32 × jM := if 9999 < M (q + 1) w + s then (5, M) else if M q 6 + s ≤ 99999 then (0, x_forgM M q w s) else (5, M)
set_option maxHeartbeats 4000000 in
set_option maxRecDepth 10000 in
theorem c_X2_forgedFor (l : Launch) (D : va_G) (a : Nat → Nat) (g : Nat → ClassId) (M : jM) (L : jL) (q : Nat) (hq : jRl q) (w : Nat) (hw : w < 6) (s : Int32)  : jK l D a g yX2_forgedFor cX2_forgedFor 3 (some .int) 0 0 [.ref (a q), .int (nI w), .int s] M L (some (.int ((x_forg M q w s).1))) ((x_forg M q w s).2) L := by
  refine jMeth (by decide) (Nat.le_of_ble_eq_true rfl) ?_
  intro G hX hZ
  refine J_cg (loc' := [(0, .ref (a q)), (1, .int (nI w)), (2, .int s)]) rfl rfl rfl rfl ?_
  refine J_aload_n hX 0 dX2_forgedFor_0 rfl ?_
  refine J_getr hX q 0 dX2_forgedFor_1 hq.o rfl rfl (by decide) inlX2 wm_2_21 ?_
  refine J_iload_n hX 1 dX2_forgedFor_4 rfl ?_
  refine J_iald hX (q + 1) w dX2_forgedFor_5 hq.c1 rfl (by omega) (by omega) ?_
  refine J_iload_n hX 2 dX2_forgedFor_6 rfl ?_
  refine J_iadd hX dX2_forgedFor_7 ?_
  refine J_sipush (v := 9999) hX dX2_forgedFor_8 (by decide) ?_
  refine J_icmp_gt hX 25 dX2_forgedFor_11 (by decide) (fun h11 => ?_) (fun h11 => ?_)
  · skip
    refine J_iconst (v := 5) hX dX2_forgedFor_25 (by decide) ?_
    exact J_ret hX hZ dX2_forgedFor_26 rfl rfl ⟨by simp [x_forg, h11], by simp [x_forg, x_forgM, h11], rfl⟩
  · skip
    refine J_aload_n hX 0 dX2_forgedFor_14 rfl ?_
    refine J_geti hX q 6 dX2_forgedFor_15 hq.o rfl rfl (by decide) inlX2 wm_13_1 ?_
    refine J_iload_n hX 2 dX2_forgedFor_18 rfl ?_
    refine J_iadd hX dX2_forgedFor_19 ?_
    refine J_ldc hX dX2_forgedFor_20 wm_14_2 ?_
    refine J_icmp_le hX 27 dX2_forgedFor_22 (by decide) (fun h22 => ?_) (fun h22 => ?_)
    · skip
      refine J_aload_n hX 0 dX2_forgedFor_27 rfl ?_
      refine J_getr hX q 0 dX2_forgedFor_28 hq.o rfl rfl (by decide) inlX2 wm_2_21 ?_
      refine J_iload_n hX 1 dX2_forgedFor_31 rfl ?_
      refine J_dup2 hX dX2_forgedFor_32 rfl rfl ?_
      refine J_iald hX (q + 1) w dX2_forgedFor_33 hq.c1 rfl (by omega) (by omega) ?_
      refine J_iload_n hX 2 dX2_forgedFor_34 rfl ?_
      refine J_iadd hX dX2_forgedFor_35 ?_
      refine J_iast hX (q + 1) w dX2_forgedFor_36 hq.c1 rfl (by omega) (by omega) ?_
      refine J_aload_n hX 0 dX2_forgedFor_37 rfl ?_
      refine J_dup hX dX2_forgedFor_38 rfl ?_
      refine J_geti hX q 6 dX2_forgedFor_39 hq.o rfl rfl (by decide) inlX2 wm_13_1 ?_
      refine J_iload_n hX 2 dX2_forgedFor_42 rfl ?_
      refine J_iadd hX dX2_forgedFor_43 ?_
      refine J_puti (ty := .int) hX q 6 dX2_forgedFor_44 hq.o rfl rfl (by decide) inlX2 wm_13_1 tyX2 tyX2_ok nmX2 rfl (by decide +kernel) rfl rfl ?_
      refine J_iconst (v := 0) hX dX2_forgedFor_47 (by decide) ?_
      exact J_ret hX hZ dX2_forgedFor_48 rfl rfl ⟨by simp [x_forg, h11, h22], by simp [x_forg, x_forgM, h11, h22], rfl⟩
    · skip
      refine J_iconst (v := 5) hX dX2_forgedFor_25 (by decide) ?_
      exact J_ret hX hZ dX2_forgedFor_26 rfl rfl ⟨by simp [x_forg, h11, h22], by simp [x_forg, x_forgM, h11, h22], rfl⟩
def x_month (M : jM) (q : Nat) : Int32 × jM := if M q 8 = 99 then (6, M) else (0, jU M q 8 (M q 8 + 1))
set_option maxHeartbeats 4000000 in
set_option maxRecDepth 10000 in
theorem c_X2_monthEnded (l : Launch) (D : va_G) (a : Nat → Nat) (g : Nat → ClassId) (M : jM) (L : jL) (q : Nat) (hq : jRl q)  : jK l D a g yX2_monthEnded cX2_monthEnded 1 (some .int) 0 0 [.ref (a q)] M L (some (.int ((x_month M q).1))) ((x_month M q).2) L := by
  refine jMeth (by decide) (Nat.le_of_ble_eq_true rfl) ?_
  intro G hX hZ
  refine J_cg (loc' := [(0, .ref (a q))]) rfl rfl rfl rfl ?_
  refine J_aload_n hX 0 dX2_monthEnded_0 rfl ?_
  refine J_geti hX q 8 dX2_monthEnded_1 hq.o rfl rfl (by decide) inlX2 wm_13_3 ?_
  refine J_bipush (v := 99) hX dX2_monthEnded_4 (by decide) ?_
  refine J_icmp_ne hX 12 dX2_monthEnded_6 (by decide) (fun h6 => ?_) (fun h6 => ?_)
  · skip
    refine J_aload_n hX 0 dX2_monthEnded_12 rfl ?_
    refine J_dup hX dX2_monthEnded_13 rfl ?_
    refine J_geti hX q 8 dX2_monthEnded_14 hq.o rfl rfl (by decide) inlX2 wm_13_3 ?_
    refine J_iconst (v := 1) hX dX2_monthEnded_17 (by decide) ?_
    refine J_iadd hX dX2_monthEnded_18 ?_
    refine J_puti (ty := .int) hX q 8 dX2_monthEnded_19 hq.o rfl rfl (by decide) inlX2 wm_13_3 tyX2 tyX2_ok nmX2 rfl (by decide +kernel) rfl rfl ?_
    refine J_iconst (v := 0) hX dX2_monthEnded_22 (by decide) ?_
    exact J_ret hX hZ dX2_monthEnded_23 rfl rfl ⟨by simp [x_month, h6], by simp [x_month, h6], rfl⟩
  · skip
    refine J_bipush (v := 6) hX dX2_monthEnded_9 (by decide) ?_
    exact J_ret hX hZ dX2_monthEnded_11 rfl rfl ⟨by simp [x_month, h6], by simp [x_month, h6], rfl⟩
def x_act (M : jM) (q : Nat) (k : Int32) (w v : Nat) : Int32 × jM :=
  if k = 0 then x_printed M q (100 * nI v) else if k = 1 then x_paid M q w (100 * nI v) else if k = 2 then x_bought M q w v else if k = 3 then x_bought M q w v
  else if k = 4 then x_exch M q w (10 * nI v) else if k = 5 then x_sett M q w v else if k = 6 then x_forg M q w (100 * nI v) else x_month M q
set_option maxHeartbeats 4000000 in
set_option maxRecDepth 10000 in
theorem c_X2_act (l : Launch) (D : va_G) (a : Nat → Nat) (g : Nat → ClassId) (M : jM) (L : jL) (q : Nat) (hq : jRl q) (k : Int32) (w : Nat) (hw : w < 6) (v : Nat) (h2 : k = 2 ∨ k = 3 → v < 8) (h5 : k = 5 → v < 6)  : jK l D a g yX2_act cX2_act 4 (some .int) 4 94 [.ref (a q), .int k, .int (nI w), .int (nI v)] M L (some (.int ((x_act M q k w v).1))) ((x_act M q k w v).2) L := by
  refine jMeth (by decide) (Nat.le_of_ble_eq_true rfl) ?_
  intro G hX hZ
  refine J_cg (loc' := [(0, .ref (a q)), (1, .int k), (2, .int (nI w)), (3, .int (nI v))]) rfl rfl rfl rfl ?_
  refine J_iload_n hX 1 dX2_act_0 rfl ?_
  by_cases s1_0 : k = 0
  · refine J_tableIn hX 44 dX2_act_1 (by rw [s1_0]; decide) (by rw [s1_0]; decide) (by rw [s1_0]; rfl) (by decide) ?_
    refine J_aload_n hX 0 dX2_act_44 rfl ?_
    refine J_bipush (v := 100) hX dX2_act_45 (by decide) ?_
    refine J_iload_n hX 3 dX2_act_47 rfl ?_
    refine J_imul hX dX2_act_48 ?_
    refine J_callV hX q [.int (100 * (nI v))] [] dX2_act_49 (c_X2_printed l D a g M L q hq (100 * (nI v))) lk_X2_66 hq.o rfl rfl rfl (Nat.le_of_ble_eq_true rfl) (Nat.le_of_ble_eq_true rfl) (Nat.le_of_ble_eq_true rfl) (J_eq (st := [.int ((x_printed M q (100 * (nI v))).1)]) rfl ?_)
    exact J_ret hX hZ dX2_act_52 rfl rfl ⟨by simp [x_act, s1_0], by simp [x_act, s1_0], rfl⟩
  by_cases s1_1 : k = 1
  · refine J_tableIn hX 53 dX2_act_1 (by rw [s1_1]; decide) (by rw [s1_1]; decide) (by rw [s1_1]; rfl) (by decide) ?_
    refine J_aload_n hX 0 dX2_act_53 rfl ?_
    refine J_iload_n hX 2 dX2_act_54 rfl ?_
    refine J_bipush (v := 100) hX dX2_act_55 (by decide) ?_
    refine J_iload_n hX 3 dX2_act_57 rfl ?_
    refine J_imul hX dX2_act_58 ?_
    refine J_callV hX q [.int (nI w), .int (100 * (nI v))] [] dX2_act_59 (c_X2_paidByState l D a g M L q hq w (by omega) (100 * (nI v))) lk_X2_69 hq.o rfl rfl rfl (Nat.le_of_ble_eq_true rfl) (Nat.le_of_ble_eq_true rfl) (Nat.le_of_ble_eq_true rfl) (J_eq (st := [.int ((x_paid M q w (100 * (nI v))).1)]) rfl ?_)
    exact J_ret hX hZ dX2_act_62 rfl rfl ⟨by simp [x_act, s1_0, s1_1], by simp [x_act, s1_0, s1_1], rfl⟩
  by_cases s1_2 : k = 2
  · refine J_tableIn hX 63 dX2_act_1 (by rw [s1_2]; decide) (by rw [s1_2]; decide) (by rw [s1_2]; rfl) (by decide) ?_
    have hv := h2 (Or.inl s1_2)
    refine J_aload_n hX 0 dX2_act_63 rfl ?_
    refine J_iload_n hX 2 dX2_act_64 rfl ?_
    refine J_iload_n hX 3 dX2_act_65 rfl ?_
    refine J_callV hX q [.int (nI w), .int (nI v)] [] dX2_act_66 (c_X2_bought l D a g M L q hq w (by omega) v (by omega)) lk_X2_72 hq.o rfl rfl rfl (Nat.le_of_ble_eq_true rfl) (Nat.le_of_ble_eq_true rfl) (Nat.le_of_ble_eq_true rfl) (J_eq (st := [.int ((x_bought M q w v).1)]) rfl ?_)
    exact J_ret hX hZ dX2_act_69 rfl rfl ⟨by simp [x_act, s1_0, s1_1, s1_2], by simp [x_act, s1_0, s1_1, s1_2], rfl⟩
  by_cases s1_3 : k = 3
  · refine J_tableIn hX 63 dX2_act_1 (by rw [s1_3]; decide) (by rw [s1_3]; decide) (by rw [s1_3]; rfl) (by decide) ?_
    have hv := h2 (Or.inr s1_3)
    refine J_aload_n hX 0 dX2_act_63 rfl ?_
    refine J_iload_n hX 2 dX2_act_64 rfl ?_
    refine J_iload_n hX 3 dX2_act_65 rfl ?_
    refine J_callV hX q [.int (nI w), .int (nI v)] [] dX2_act_66 (c_X2_bought l D a g M L q hq w (by omega) v (by omega)) lk_X2_72 hq.o rfl rfl rfl (Nat.le_of_ble_eq_true rfl) (Nat.le_of_ble_eq_true rfl) (Nat.le_of_ble_eq_true rfl) (J_eq (st := [.int ((x_bought M q w v).1)]) rfl ?_)
    exact J_ret hX hZ dX2_act_69 rfl rfl ⟨by simp [x_act, s1_0, s1_1, s1_2, s1_3], by simp [x_act, s1_0, s1_1, s1_2, s1_3], rfl⟩
  by_cases s1_4 : k = 4
  · refine J_tableIn hX 70 dX2_act_1 (by rw [s1_4]; decide) (by rw [s1_4]; decide) (by rw [s1_4]; rfl) (by decide) ?_
    refine J_aload_n hX 0 dX2_act_70 rfl ?_
    refine J_iload_n hX 2 dX2_act_71 rfl ?_
    refine J_bipush (v := 10) hX dX2_act_72 (by decide) ?_
    refine J_iload_n hX 3 dX2_act_74 rfl ?_
    refine J_imul hX dX2_act_75 ?_
    refine J_callV hX q [.int (nI w), .int (10 * (nI v))] [] dX2_act_76 (c_X2_exchanged l D a g M L q hq w (by omega) (10 * (nI v))) lk_X2_75 hq.o rfl rfl rfl (Nat.le_of_ble_eq_true rfl) (Nat.le_of_ble_eq_true rfl) (Nat.le_of_ble_eq_true rfl) (J_eq (st := [.int ((x_exch M q w (10 * (nI v))).1)]) rfl ?_)
    exact J_ret hX hZ dX2_act_79 rfl rfl ⟨by simp [x_act, s1_0, s1_1, s1_2, s1_3, s1_4], by simp [x_act, s1_0, s1_1, s1_2, s1_3, s1_4], rfl⟩
  by_cases s1_5 : k = 5
  · refine J_tableIn hX 80 dX2_act_1 (by rw [s1_5]; decide) (by rw [s1_5]; decide) (by rw [s1_5]; rfl) (by decide) ?_
    have hv := h5 s1_5
    refine J_aload_n hX 0 dX2_act_80 rfl ?_
    refine J_iload_n hX 2 dX2_act_81 rfl ?_
    refine J_iload_n hX 3 dX2_act_82 rfl ?_
    refine J_callV hX q [.int (nI w), .int (nI v)] [] dX2_act_83 (c_X2_settled l D a g M L q hq w (by omega) v (by omega)) lk_X2_78 hq.o rfl rfl rfl (Nat.le_of_ble_eq_true rfl) (Nat.le_of_ble_eq_true rfl) (Nat.le_of_ble_eq_true rfl) (J_eq (st := [.int ((x_sett M q w v).1)]) rfl ?_)
    exact J_ret hX hZ dX2_act_86 rfl rfl ⟨by simp [x_act, s1_0, s1_1, s1_2, s1_3, s1_4, s1_5], by simp [x_act, s1_0, s1_1, s1_2, s1_3, s1_4, s1_5], rfl⟩
  by_cases s1_6 : k = 6
  · refine J_tableIn hX 87 dX2_act_1 (by rw [s1_6]; decide) (by rw [s1_6]; decide) (by rw [s1_6]; rfl) (by decide) ?_
    refine J_aload_n hX 0 dX2_act_87 rfl ?_
    refine J_iload_n hX 2 dX2_act_88 rfl ?_
    refine J_bipush (v := 100) hX dX2_act_89 (by decide) ?_
    refine J_iload_n hX 3 dX2_act_91 rfl ?_
    refine J_imul hX dX2_act_92 ?_
    refine J_callV hX q [.int (nI w), .int (100 * (nI v))] [] dX2_act_93 (c_X2_forgedFor l D a g M L q hq w (by omega) (100 * (nI v))) lk_X2_81 hq.o rfl rfl rfl (Nat.le_of_ble_eq_true rfl) (Nat.le_of_ble_eq_true rfl) (Nat.le_of_ble_eq_true rfl) (J_eq (st := [.int ((x_forg M q w (100 * (nI v))).1)]) rfl ?_)
    exact J_ret hX hZ dX2_act_96 rfl rfl ⟨by simp [x_act, s1_0, s1_1, s1_2, s1_3, s1_4, s1_5, s1_6], by simp [x_act, s1_0, s1_1, s1_2, s1_3, s1_4, s1_5, s1_6], rfl⟩
  have t1_0 := lv_neT s1_0 (show (0 : Int32).toInt = 0 from rfl)
  have t1_1 := lv_neT s1_1 (show (1 : Int32).toInt = 1 from rfl)
  have t1_2 := lv_neT s1_2 (show (2 : Int32).toInt = 2 from rfl)
  have t1_3 := lv_neT s1_3 (show (3 : Int32).toInt = 3 from rfl)
  have t1_4 := lv_neT s1_4 (show (4 : Int32).toInt = 4 from rfl)
  have t1_5 := lv_neT s1_5 (show (5 : Int32).toInt = 5 from rfl)
  have t1_6 := lv_neT s1_6 (show (6 : Int32).toInt = 6 from rfl)
  refine J_tableOut hX 97 dX2_act_1 (by omega) (by decide) ?_
  refine J_aload_n hX 0 dX2_act_97 rfl ?_
  refine J_callV hX q [] [] dX2_act_98 (c_X2_monthEnded l D a g M L q hq) lk_X2_84 hq.o rfl rfl rfl (Nat.le_of_ble_eq_true rfl) (Nat.le_of_ble_eq_true rfl) (Nat.le_of_ble_eq_true rfl) (J_eq (st := [.int ((x_month M q).1)]) rfl ?_)
  exact J_ret hX hZ dX2_act_101 rfl rfl ⟨by simp [x_act, s1_0, s1_1, s1_2, s1_3, s1_4, s1_5, s1_6], by simp [x_act, s1_0, s1_1, s1_2, s1_3, s1_4, s1_5, s1_6], rfl⟩
def x_cpR (M : jM) (r q : Nat) : Nat → jM
  | 0 => M
  | n + 1 => jCp (x_cpR M r q n) (r + 6 + n) (q + 6 + n) 6
def x_cpS (M : jM) (r q : Nat) : Nat → jM
  | 0 => M
  | n + 1 => jU (x_cpS M r q n) q (5 + n) (x_cpS M r q n r (5 + n))
def x_copy (M : jM) (r q : Nat) : jM := x_cpS (jCp (jCp (x_cpR (jCp (jCp M (r + 1) (q + 1) 6) (r + 2) (q + 2) 6) r q 6) (r + 4) (q + 4) 8) (r + 5) (q + 5) 8) r q 4
set_option maxHeartbeats 4000000 in
set_option maxRecDepth 10000 in
theorem c_X2_copyFrom (l : Launch) (D : va_G) (a : Nat → Nat) (g : Nat → ClassId) (M : jM) (L : jL) (q : Nat) (hq : jRl q) (r : Nat) (hr : jRl r)  : jK l D a g yX2_copyFrom cX2_copyFrom 3 none 1 60 [.ref (a q), .ref (a r)] M L none (x_copy M r q) L := by
  refine jMeth (by decide) (Nat.le_of_ble_eq_true rfl) ?_
  intro G hX hZ
  refine J_cg (loc' := [(0, .ref (a q)), (1, .ref (a r))]) rfl rfl rfl rfl ?_
  refine J_aload_n hX 1 dX2_copyFrom_0 rfl ?_
  refine J_getr hX r 0 dX2_copyFrom_1 hr.o rfl rfl (by decide) inlX2 wm_2_21 ?_
  refine J_iconst (v := 0) hX dX2_copyFrom_4 (by decide) ?_
  refine J_aload_n hX 0 dX2_copyFrom_5 rfl ?_
  refine J_getr hX q 0 dX2_copyFrom_6 hq.o rfl rfl (by decide) inlX2 wm_2_21 ?_
  refine J_iconst (v := 0) hX dX2_copyFrom_9 (by decide) ?_
  refine J_bipush (v := 6) hX dX2_copyFrom_10 (by decide) ?_
  refine J_copyi (n := 6) hX (r + 1) (q + 1) dX2_copyFrom_12 wm_12_20 wm_12_21 wm_12_22 wm_12_23 hr.c1 hq.c1 rfl (by omega) (by omega) (by omega) (Nat.le_of_ble_eq_true rfl) (Nat.le_of_ble_eq_true rfl) ?_
  refine J_aload_n hX 1 dX2_copyFrom_15 rfl ?_
  refine J_getr hX r 1 dX2_copyFrom_16 hr.o rfl rfl (by decide) inlX2 wm_2_22 ?_
  refine J_iconst (v := 0) hX dX2_copyFrom_19 (by decide) ?_
  refine J_aload_n hX 0 dX2_copyFrom_20 rfl ?_
  refine J_getr hX q 1 dX2_copyFrom_21 hq.o rfl rfl (by decide) inlX2 wm_2_22 ?_
  refine J_iconst (v := 0) hX dX2_copyFrom_24 (by decide) ?_
  refine J_bipush (v := 6) hX dX2_copyFrom_25 (by decide) ?_
  refine J_copyi (n := 6) hX (r + 2) (q + 2) dX2_copyFrom_27 wm_12_20 wm_12_21 wm_12_22 wm_12_23 hr.c2 hq.c2 rfl (by omega) (by omega) (by omega) (Nat.le_of_ble_eq_true rfl) (Nat.le_of_ble_eq_true rfl) ?_
  refine J_iconst (v := 0) hX dX2_copyFrom_30 (by decide) ?_
  refine J_istore_n (loc' := [(2, .int 0), (0, .ref (a q)), (1, .ref (a r))]) hX dX2_copyFrom_31 (by decide) rfl ?_
  have key32 : ∀ (n : Nat) (i : Nat), 6 - i < n → i ≤ 6 → J l D a g G 3 (x_cpR (jCp (jCp M (r + 1) (q + 1) 6) (r + 2) (q + 2) 6) r q i) L 32 [(0, .ref (a q)), (1, .ref (a r)), (2, .int (nI i))] [] := by
    intro n
    induction n with
    | zero => intro i hmu; exact absurd hmu (Nat.not_lt_zero _)
    | succ n ih32 =>
      intro i hmu32 hi
      refine J_iload_n hX 2 dX2_copyFrom_32 rfl ?_
      refine J_bipush (v := 6) hX dX2_copyFrom_33 (by decide) ?_
      refine J_cmpN_ge hX 63 i 6 dX2_copyFrom_35 (by decide) rfl rfl (by omega) (by omega) (fun h35 => ?_) (fun h35 => ?_)
      · skip
        refine J_aload_n hX 1 dX2_copyFrom_63 rfl ?_
        refine J_getr hX r 3 dX2_copyFrom_64 hr.o rfl rfl (by decide) inlX2 wm_3_1 ?_
        refine J_iconst (v := 0) hX dX2_copyFrom_67 (by decide) ?_
        refine J_aload_n hX 0 dX2_copyFrom_68 rfl ?_
        refine J_getr hX q 3 dX2_copyFrom_69 hq.o rfl rfl (by decide) inlX2 wm_3_1 ?_
        refine J_iconst (v := 0) hX dX2_copyFrom_72 (by decide) ?_
        refine J_bipush (v := 8) hX dX2_copyFrom_73 (by decide) ?_
        refine J_copyi (n := 8) hX (r + 4) (q + 4) dX2_copyFrom_75 wm_12_20 wm_12_21 wm_12_22 wm_12_23 hr.c4 hq.c4 rfl (by omega) (by omega) (by omega) (Nat.le_of_ble_eq_true rfl) (Nat.le_of_ble_eq_true rfl) ?_
        refine J_aload_n hX 1 dX2_copyFrom_78 rfl ?_
        refine J_getr hX r 4 dX2_copyFrom_79 hr.o rfl rfl (by decide) inlX2 wm_3_2 ?_
        refine J_iconst (v := 0) hX dX2_copyFrom_82 (by decide) ?_
        refine J_aload_n hX 0 dX2_copyFrom_83 rfl ?_
        refine J_getr hX q 4 dX2_copyFrom_84 hq.o rfl rfl (by decide) inlX2 wm_3_2 ?_
        refine J_iconst (v := 0) hX dX2_copyFrom_87 (by decide) ?_
        refine J_bipush (v := 8) hX dX2_copyFrom_88 (by decide) ?_
        refine J_copyi (n := 8) hX (r + 5) (q + 5) dX2_copyFrom_90 wm_12_20 wm_12_21 wm_12_22 wm_12_23 hr.c5 hq.c5 rfl (by omega) (by omega) (by omega) (Nat.le_of_ble_eq_true rfl) (Nat.le_of_ble_eq_true rfl) ?_
        refine J_aload_n hX 0 dX2_copyFrom_93 rfl ?_
        refine J_aload_n hX 1 dX2_copyFrom_94 rfl ?_
        refine J_geti hX r 5 dX2_copyFrom_95 hr.o rfl rfl (by decide) inlX2 wm_13_0 ?_
        refine J_puti (ty := .int) hX q 5 dX2_copyFrom_98 hq.o rfl rfl (by decide) inlX2 wm_13_0 tyX2 tyX2_ok nmX2 rfl (by decide +kernel) rfl rfl ?_
        refine J_aload_n hX 0 dX2_copyFrom_101 rfl ?_
        refine J_aload_n hX 1 dX2_copyFrom_102 rfl ?_
        refine J_geti hX r 6 dX2_copyFrom_103 hr.o rfl rfl (by decide) inlX2 wm_13_1 ?_
        refine J_puti (ty := .int) hX q 6 dX2_copyFrom_106 hq.o rfl rfl (by decide) inlX2 wm_13_1 tyX2 tyX2_ok nmX2 rfl (by decide +kernel) rfl rfl ?_
        refine J_aload_n hX 0 dX2_copyFrom_109 rfl ?_
        refine J_aload_n hX 1 dX2_copyFrom_110 rfl ?_
        refine J_geti hX r 7 dX2_copyFrom_111 hr.o rfl rfl (by decide) inlX2 wm_13_2 ?_
        refine J_puti (ty := .int) hX q 7 dX2_copyFrom_114 hq.o rfl rfl (by decide) inlX2 wm_13_2 tyX2 tyX2_ok nmX2 rfl (by decide +kernel) rfl rfl ?_
        refine J_aload_n hX 0 dX2_copyFrom_117 rfl ?_
        refine J_aload_n hX 1 dX2_copyFrom_118 rfl ?_
        refine J_geti hX r 8 dX2_copyFrom_119 hr.o rfl rfl (by decide) inlX2 wm_13_3 ?_
        refine J_puti (ty := .int) hX q 8 dX2_copyFrom_122 hq.o rfl rfl (by decide) inlX2 wm_13_3 tyX2 tyX2_ok nmX2 rfl (by decide +kernel) rfl rfl ?_
        exact J_vret hX hZ dX2_copyFrom_125 ⟨rfl, by rw [show i = 6 by omega]; rfl, rfl⟩
      · skip
        refine J_aload_n hX 1 dX2_copyFrom_38 rfl ?_
        refine J_getr hX r 2 dX2_copyFrom_39 hr.o rfl rfl (by decide) inlX2 wm_3_0 ?_
        refine J_iload_n hX 2 dX2_copyFrom_42 rfl ?_
        refine J_aald (ty := .array .int) hX (r + 3) i dX2_copyFrom_43 hr.c3 rfl rfl rfl (hr.at (by omega)) (Nat.le_of_ble_eq_true rfl) ?_
        refine J_iconst (v := 0) hX dX2_copyFrom_44 (by decide) ?_
        refine J_aload_n hX 0 dX2_copyFrom_45 rfl ?_
        refine J_getr hX q 2 dX2_copyFrom_46 hq.o rfl rfl (by decide) inlX2 wm_3_0 ?_
        refine J_iload_n hX 2 dX2_copyFrom_49 rfl ?_
        refine J_aald (ty := .array .int) hX (q + 3) i dX2_copyFrom_50 hq.c3 rfl rfl rfl (hq.at (by omega)) (Nat.le_of_ble_eq_true rfl) ?_
        refine J_iconst (v := 0) hX dX2_copyFrom_51 (by decide) ?_
        refine J_bipush (v := 6) hX dX2_copyFrom_52 (by decide) ?_
        refine J_copyi (n := 6) hX (r + 6 + i) (q + 6 + i) dX2_copyFrom_54 wm_12_20 wm_12_21 wm_12_22 wm_12_23 (hr.row (by omega)) (hq.row (by omega)) rfl (by omega) (by omega) (by omega) (Nat.le_of_ble_eq_true rfl) (Nat.le_of_ble_eq_true rfl) ?_
        refine J_iinc (v := nI (i + 1)) (loc' := [(2, .int (nI (i + 1))), (0, .ref (a q)), (1, .ref (a r))]) hX 2 dX2_copyFrom_57 rfl (jinc i) (by decide) rfl ?_
        refine J_goto hX 32 dX2_copyFrom_60 (by decide) ?_
        refine J_sub (loc' := [(0, .ref (a q)), (1, .ref (a r)), (2, .int (nI (i + 1)))]) [1, 2, 0] rfl ?_
        refine J_cg (M' := x_cpR (jCp (jCp M (r + 1) (q + 1) 6) (r + 2) (q + 2) 6) r q (i + 1)) (L' := L) rfl rfl rfl rfl ?_
        exact ih32  (i + 1) (by omega) (by omega)
  refine J_sub (loc' := [(0, .ref (a q)), (1, .ref (a r)), (2, .int 0)]) [1, 2, 0] rfl ?_
  refine J_seti (y := nI 0) (loc' := [(0, .ref (a q)), (1, .ref (a r)), (2, .int (nI 0))]) 2 rfl rfl rfl ?_
  refine J_cg (M' := x_cpR (jCp (jCp M (r + 1) (q + 1) 6) (r + 2) (q + 2) 6) r q 0) (L' := L) rfl rfl rfl rfl ?_
  exact key32 _ 0 (Nat.lt_succ_self _) (by omega)
end
